section
-- ===== PART A: goes FIRST, ahead of the names: the tables' words, and 'selects' of the private methods out of them =====
/-- a private method of a class that the tables say can be made, by its rows of tables_1 -/
def lw_okq (q : MethodName × Nat) : Prop := (q.1.cls ≠ "java/lang/invoke/MethodHandle" ∧ q.1.cls ≠ "java/lang/invoke/VarHandle") ∧ Cond.instantiable q.1.cls q.2 ∈ tables_1 ∧ Cond.privateMethod q.1 ∈ tables_1 ∧ Cond.instanceMethod q.1 ∈ tables_1
theorem lw_p0 : lw_okq (⟨"LampLeaseOffice$Forecast", "clearTable", "()V"⟩, 1) := ⟨⟨by decide +kernel, by decide +kernel⟩, List.mem_of_getElem? (i := 199) (by decide +kernel), List.mem_of_getElem? (i := 404) (by decide +kernel), List.mem_of_getElem? (i := 405) (by decide +kernel)⟩
theorem lw_p1 : lw_okq (⟨"LampLeaseOffice$Forecast", "enterInTable", "(I)V"⟩, 1) := ⟨⟨by decide +kernel, by decide +kernel⟩, List.mem_of_getElem? (i := 199) (by decide +kernel), List.mem_of_getElem? (i := 408) (by decide +kernel), List.mem_of_getElem? (i := 409) (by decide +kernel)⟩
theorem lw_p2 : lw_okq (⟨"LampLeaseOffice", "coinsAddUp", "()Z"⟩, 12) := ⟨⟨by decide +kernel, by decide +kernel⟩, List.mem_of_getElem? (i := 39) (by decide +kernel), List.mem_of_getElem? (i := 431) (by decide +kernel), List.mem_of_getElem? (i := 432) (by decide +kernel)⟩
theorem lw_p3 : lw_okq (⟨"LampLeaseOffice", "sharesAgree", "()Z"⟩, 12) := ⟨⟨by decide +kernel, by decide +kernel⟩, List.mem_of_getElem? (i := 39) (by decide +kernel), List.mem_of_getElem? (i := 439) (by decide +kernel), List.mem_of_getElem? (i := 440) (by decide +kernel)⟩
theorem lw_p4 : lw_okq (⟨"LampLeaseOffice$Division", "divideRoundedDown", "(LLampLeaseOffice$State;)V"⟩, 4) := ⟨⟨by decide +kernel, by decide +kernel⟩, List.mem_of_getElem? (i := 209) (by decide +kernel), List.mem_of_getElem? (i := 451) (by decide +kernel), List.mem_of_getElem? (i := 452) (by decide +kernel)⟩
theorem lw_p5 : lw_okq (⟨"LampLeaseOffice$Division", "giveOneUnit", "(I)V"⟩, 4) := ⟨⟨by decide +kernel, by decide +kernel⟩, List.mem_of_getElem? (i := 209) (by decide +kernel), List.mem_of_getElem? (i := 464) (by decide +kernel), List.mem_of_getElem? (i := 465) (by decide +kernel)⟩
theorem lw_p6 : lw_okq (⟨"LampLeaseOffice$Division", "rankOf", "(II)I"⟩, 4) := ⟨⟨by decide +kernel, by decide +kernel⟩, List.mem_of_getElem? (i := 209) (by decide +kernel), List.mem_of_getElem? (i := 472) (by decide +kernel), List.mem_of_getElem? (i := 473) (by decide +kernel)⟩
theorem lw_p7 : lw_okq (⟨"LampLeaseOffice", "sharesAddUp", "()Z"⟩, 12) := ⟨⟨by decide +kernel, by decide +kernel⟩, List.mem_of_getElem? (i := 39) (by decide +kernel), List.mem_of_getElem? (i := 476) (by decide +kernel), List.mem_of_getElem? (i := 477) (by decide +kernel)⟩
theorem lw_p8 : lw_okq (⟨"LampLeaseOffice", "brightnessAgrees", "()Z"⟩, 12) := ⟨⟨by decide +kernel, by decide +kernel⟩, List.mem_of_getElem? (i := 39) (by decide +kernel), List.mem_of_getElem? (i := 480) (by decide +kernel), List.mem_of_getElem? (i := 481) (by decide +kernel)⟩
theorem lw_p9 : lw_okq (⟨"LampLeaseOffice", "requestsAreForLeasedLamps", "()Z"⟩, 12) := ⟨⟨by decide +kernel, by decide +kernel⟩, List.mem_of_getElem? (i := 39) (by decide +kernel), List.mem_of_getElem? (i := 484) (by decide +kernel), List.mem_of_getElem? (i := 485) (by decide +kernel)⟩
theorem lw_p10 : lw_okq (⟨"java/lang/Throwable", "fillInStackTrace", "(I)Ljava/lang/Throwable;"⟩, 6) := ⟨⟨by decide +kernel, by decide +kernel⟩, List.mem_of_getElem? (i := 730) (by decide +kernel), List.mem_of_getElem? (i := 728) (by decide +kernel), List.mem_of_getElem? (i := 729) (by decide +kernel)⟩
theorem lw_p11 : lw_okq (⟨"LampLeaseOffice", "describe", "(I)V"⟩, 12) := ⟨⟨by decide +kernel, by decide +kernel⟩, List.mem_of_getElem? (i := 39) (by decide +kernel), List.mem_of_getElem? (i := 860) (by decide +kernel), List.mem_of_getElem? (i := 861) (by decide +kernel)⟩
theorem lw_p12 : lw_okq (⟨"LampLeaseOffice$State", "price", "(II)I"⟩, 7) := ⟨⟨by decide +kernel, by decide +kernel⟩, List.mem_of_getElem? (i := 47) (by decide +kernel), List.mem_of_getElem? (i := 1037) (by decide +kernel), List.mem_of_getElem? (i := 1038) (by decide +kernel)⟩
theorem lw_p13 : lw_okq (⟨"LampLeaseOffice$State", "payOffice", "(II)V"⟩, 7) := ⟨⟨by decide +kernel, by decide +kernel⟩, List.mem_of_getElem? (i := 47) (by decide +kernel), List.mem_of_getElem? (i := 1049) (by decide +kernel), List.mem_of_getElem? (i := 1050) (by decide +kernel)⟩
theorem lw_p14 : lw_okq (⟨"LampLeaseOffice$State", "passOneHour", "()I"⟩, 7) := ⟨⟨by decide +kernel, by decide +kernel⟩, List.mem_of_getElem? (i := 47) (by decide +kernel), List.mem_of_getElem? (i := 1104) (by decide +kernel), List.mem_of_getElem? (i := 1105) (by decide +kernel)⟩
theorem lw_p15 : lw_okq (⟨"LampLeaseOffice$State", "processRequests", "()V"⟩, 7) := ⟨⟨by decide +kernel, by decide +kernel⟩, List.mem_of_getElem? (i := 47) (by decide +kernel), List.mem_of_getElem? (i := 1108) (by decide +kernel), List.mem_of_getElem? (i := 1109) (by decide +kernel)⟩
def lw_privs_1 : List (MethodName × Nat) := [(⟨"LampLeaseOffice$Forecast", "clearTable", "()V"⟩, 1), (⟨"LampLeaseOffice$Forecast", "enterInTable", "(I)V"⟩, 1), (⟨"LampLeaseOffice", "coinsAddUp", "()Z"⟩, 12), (⟨"LampLeaseOffice", "sharesAgree", "()Z"⟩, 12), (⟨"LampLeaseOffice$Division", "divideRoundedDown", "(LLampLeaseOffice$State;)V"⟩, 4), (⟨"LampLeaseOffice$Division", "giveOneUnit", "(I)V"⟩, 4), (⟨"LampLeaseOffice$Division", "rankOf", "(II)I"⟩, 4), (⟨"LampLeaseOffice", "sharesAddUp", "()Z"⟩, 12), (⟨"LampLeaseOffice", "brightnessAgrees", "()Z"⟩, 12), (⟨"LampLeaseOffice", "requestsAreForLeasedLamps", "()Z"⟩, 12), (⟨"java/lang/Throwable", "fillInStackTrace", "(I)Ljava/lang/Throwable;"⟩, 6), (⟨"LampLeaseOffice", "describe", "(I)V"⟩, 12), (⟨"LampLeaseOffice$State", "price", "(II)I"⟩, 7), (⟨"LampLeaseOffice$State", "payOffice", "(II)V"⟩, 7), (⟨"LampLeaseOffice$State", "passOneHour", "()I"⟩, 7), (⟨"LampLeaseOffice$State", "processRequests", "()V"⟩, 7)]
theorem lw_r1 : ∀ q ∈ lw_privs_1, lw_okq q := List.forall_mem_cons.mpr ⟨lw_p0, List.forall_mem_cons.mpr ⟨lw_p1, List.forall_mem_cons.mpr ⟨lw_p2, List.forall_mem_cons.mpr ⟨lw_p3, List.forall_mem_cons.mpr ⟨lw_p4, List.forall_mem_cons.mpr ⟨lw_p5, List.forall_mem_cons.mpr ⟨lw_p6, List.forall_mem_cons.mpr ⟨lw_p7, List.forall_mem_cons.mpr ⟨lw_p8, List.forall_mem_cons.mpr ⟨lw_p9, List.forall_mem_cons.mpr ⟨lw_p10, List.forall_mem_cons.mpr ⟨lw_p11, List.forall_mem_cons.mpr ⟨lw_p12, List.forall_mem_cons.mpr ⟨lw_p13, List.forall_mem_cons.mpr ⟨lw_p14, List.forall_mem_cons.mpr ⟨lw_p15, fun _ h => absurd h List.not_mem_nil⟩⟩⟩⟩⟩⟩⟩⟩⟩⟩⟩⟩⟩⟩⟩⟩
theorem lw_p16 : lw_okq (⟨"LampLeaseOffice$State", "renewOrRefuse", "(II)V"⟩, 7) := ⟨⟨by decide +kernel, by decide +kernel⟩, List.mem_of_getElem? (i := 47) (by decide +kernel), List.mem_of_getElem? (i := 1112) (by decide +kernel), List.mem_of_getElem? (i := 1113) (by decide +kernel)⟩
theorem lw_p17 : lw_okq (⟨"LampLeaseOffice$State", "burn", "()V"⟩, 7) := ⟨⟨by decide +kernel, by decide +kernel⟩, List.mem_of_getElem? (i := 47) (by decide +kernel), List.mem_of_getElem? (i := 1120) (by decide +kernel), List.mem_of_getElem? (i := 1121) (by decide +kernel)⟩
theorem lw_p18 : lw_okq (⟨"LampLeaseOffice$State", "fineDarkShips", "()V"⟩, 7) := ⟨⟨by decide +kernel, by decide +kernel⟩, List.mem_of_getElem? (i := 47) (by decide +kernel), List.mem_of_getElem? (i := 1124) (by decide +kernel), List.mem_of_getElem? (i := 1125) (by decide +kernel)⟩
theorem lw_p19 : lw_okq (⟨"LampLeaseOffice$State", "endLeases", "()I"⟩, 7) := ⟨⟨by decide +kernel, by decide +kernel⟩, List.mem_of_getElem? (i := 47) (by decide +kernel), List.mem_of_getElem? (i := 1137) (by decide +kernel), List.mem_of_getElem? (i := 1138) (by decide +kernel)⟩
theorem lw_p20 : lw_okq (⟨"LampLeaseOffice", "throwUnlessShip", "(I)V"⟩, 12) := ⟨⟨by decide +kernel, by decide +kernel⟩, List.mem_of_getElem? (i := 39) (by decide +kernel), List.mem_of_getElem? (i := 1149) (by decide +kernel), List.mem_of_getElem? (i := 1150) (by decide +kernel)⟩
theorem lw_p21 : lw_okq (⟨"LampLeaseOffice", "throwUnlessLamp", "(I)V"⟩, 12) := ⟨⟨by decide +kernel, by decide +kernel⟩, List.mem_of_getElem? (i := 39) (by decide +kernel), List.mem_of_getElem? (i := 1192) (by decide +kernel), List.mem_of_getElem? (i := 1193) (by decide +kernel)⟩
theorem lw_p22 : lw_okq (⟨"LampLeaseOffice", "throwUnlessPosition", "(I)V"⟩, 12) := ⟨⟨by decide +kernel, by decide +kernel⟩, List.mem_of_getElem? (i := 39) (by decide +kernel), List.mem_of_getElem? (i := 1288) (by decide +kernel), List.mem_of_getElem? (i := 1289) (by decide +kernel)⟩
theorem lw_p23 : lw_okq (⟨"LampLeaseOffice$Ships", "rankOf", "(I)I"⟩, 4) := ⟨⟨by decide +kernel, by decide +kernel⟩, List.mem_of_getElem? (i := 53) (by decide +kernel), List.mem_of_getElem? (i := 1311) (by decide +kernel), List.mem_of_getElem? (i := 1312) (by decide +kernel)⟩
theorem lw_p24 : lw_okq (⟨"LampLeaseOffice$Ships", "isBefore", "(II)Z"⟩, 4) := ⟨⟨by decide +kernel, by decide +kernel⟩, List.mem_of_getElem? (i := 53) (by decide +kernel), List.mem_of_getElem? (i := 1315) (by decide +kernel), List.mem_of_getElem? (i := 1316) (by decide +kernel)⟩
theorem lw_p25 : lw_okq (⟨"LampLeaseOffice$Lamps", "rankOf", "(I)I"⟩, 6) := ⟨⟨by decide +kernel, by decide +kernel⟩, List.mem_of_getElem? (i := 82) (by decide +kernel), List.mem_of_getElem? (i := 1330) (by decide +kernel), List.mem_of_getElem? (i := 1331) (by decide +kernel)⟩
theorem lw_p26 : lw_okq (⟨"LampLeaseOffice$Lamps", "isBefore", "(II)Z"⟩, 6) := ⟨⟨by decide +kernel, by decide +kernel⟩, List.mem_of_getElem? (i := 82) (by decide +kernel), List.mem_of_getElem? (i := 1334) (by decide +kernel), List.mem_of_getElem? (i := 1335) (by decide +kernel)⟩
theorem lw_p27 : lw_okq (⟨"LampLeaseOffice$CommandText", "readCommand", "(LLampLeaseOffice$Command;)Z"⟩, 5) := ⟨⟨by decide +kernel, by decide +kernel⟩, List.mem_of_getElem? (i := 228) (by decide +kernel), List.mem_of_getElem? (i := 1393) (by decide +kernel), List.mem_of_getElem? (i := 1394) (by decide +kernel)⟩
theorem lw_p28 : lw_okq (⟨"LampLeaseOffice$CommandText", "readKeyword", "()LLampLeaseOffice$Keyword;"⟩, 5) := ⟨⟨by decide +kernel, by decide +kernel⟩, List.mem_of_getElem? (i := 228) (by decide +kernel), List.mem_of_getElem? (i := 1397) (by decide +kernel), List.mem_of_getElem? (i := 1398) (by decide +kernel)⟩
theorem lw_p29 : lw_okq (⟨"LampLeaseOffice$CommandText", "commonLetters", "(Ljava/lang/String;)I"⟩, 5) := ⟨⟨by decide +kernel, by decide +kernel⟩, List.mem_of_getElem? (i := 228) (by decide +kernel), List.mem_of_getElem? (i := 1403) (by decide +kernel), List.mem_of_getElem? (i := 1404) (by decide +kernel)⟩
theorem lw_p30 : lw_okq (⟨"LampLeaseOffice$CommandText", "isAt", "(C)Z"⟩, 5) := ⟨⟨by decide +kernel, by decide +kernel⟩, List.mem_of_getElem? (i := 228) (by decide +kernel), List.mem_of_getElem? (i := 1424) (by decide +kernel), List.mem_of_getElem? (i := 1425) (by decide +kernel)⟩
theorem lw_p31 : lw_okq (⟨"LampLeaseOffice$CommandText", "readBlankAndNumber", "(I)I"⟩, 5) := ⟨⟨by decide +kernel, by decide +kernel⟩, List.mem_of_getElem? (i := 228) (by decide +kernel), List.mem_of_getElem? (i := 1432) (by decide +kernel), List.mem_of_getElem? (i := 1433) (by decide +kernel)⟩
def lw_privs_2 : List (MethodName × Nat) := [(⟨"LampLeaseOffice$State", "renewOrRefuse", "(II)V"⟩, 7), (⟨"LampLeaseOffice$State", "burn", "()V"⟩, 7), (⟨"LampLeaseOffice$State", "fineDarkShips", "()V"⟩, 7), (⟨"LampLeaseOffice$State", "endLeases", "()I"⟩, 7), (⟨"LampLeaseOffice", "throwUnlessShip", "(I)V"⟩, 12), (⟨"LampLeaseOffice", "throwUnlessLamp", "(I)V"⟩, 12), (⟨"LampLeaseOffice", "throwUnlessPosition", "(I)V"⟩, 12), (⟨"LampLeaseOffice$Ships", "rankOf", "(I)I"⟩, 4), (⟨"LampLeaseOffice$Ships", "isBefore", "(II)Z"⟩, 4), (⟨"LampLeaseOffice$Lamps", "rankOf", "(I)I"⟩, 6), (⟨"LampLeaseOffice$Lamps", "isBefore", "(II)Z"⟩, 6), (⟨"LampLeaseOffice$CommandText", "readCommand", "(LLampLeaseOffice$Command;)Z"⟩, 5), (⟨"LampLeaseOffice$CommandText", "readKeyword", "()LLampLeaseOffice$Keyword;"⟩, 5), (⟨"LampLeaseOffice$CommandText", "commonLetters", "(Ljava/lang/String;)I"⟩, 5), (⟨"LampLeaseOffice$CommandText", "isAt", "(C)Z"⟩, 5), (⟨"LampLeaseOffice$CommandText", "readBlankAndNumber", "(I)I"⟩, 5)]
theorem lw_r2 : ∀ q ∈ lw_privs_2, lw_okq q := List.forall_mem_cons.mpr ⟨lw_p16, List.forall_mem_cons.mpr ⟨lw_p17, List.forall_mem_cons.mpr ⟨lw_p18, List.forall_mem_cons.mpr ⟨lw_p19, List.forall_mem_cons.mpr ⟨lw_p20, List.forall_mem_cons.mpr ⟨lw_p21, List.forall_mem_cons.mpr ⟨lw_p22, List.forall_mem_cons.mpr ⟨lw_p23, List.forall_mem_cons.mpr ⟨lw_p24, List.forall_mem_cons.mpr ⟨lw_p25, List.forall_mem_cons.mpr ⟨lw_p26, List.forall_mem_cons.mpr ⟨lw_p27, List.forall_mem_cons.mpr ⟨lw_p28, List.forall_mem_cons.mpr ⟨lw_p29, List.forall_mem_cons.mpr ⟨lw_p30, List.forall_mem_cons.mpr ⟨lw_p31, fun _ h => absurd h List.not_mem_nil⟩⟩⟩⟩⟩⟩⟩⟩⟩⟩⟩⟩⟩⟩⟩⟩
theorem lw_p32 : lw_okq (⟨"LampLeaseOffice$CommandText", "isAtDigit", "()Z"⟩, 5) := ⟨⟨by decide +kernel, by decide +kernel⟩, List.mem_of_getElem? (i := 228) (by decide +kernel), List.mem_of_getElem? (i := 1436) (by decide +kernel), List.mem_of_getElem? (i := 1437) (by decide +kernel)⟩
theorem lw_p33 : lw_okq (⟨"LampLeaseOffice", "faultOf", "(LLampLeaseOffice$Command;)C"⟩, 12) := ⟨⟨by decide +kernel, by decide +kernel⟩, List.mem_of_getElem? (i := 39) (by decide +kernel), List.mem_of_getElem? (i := 1445) (by decide +kernel), List.mem_of_getElem? (i := 1446) (by decide +kernel)⟩
theorem lw_p34 : lw_okq (⟨"LampLeaseOffice", "carryOut", "(LLampLeaseOffice$Command;)V"⟩, 12) := ⟨⟨by decide +kernel, by decide +kernel⟩, List.mem_of_getElem? (i := 39) (by decide +kernel), List.mem_of_getElem? (i := 1470) (by decide +kernel), List.mem_of_getElem? (i := 1471) (by decide +kernel)⟩
theorem lw_p35 : lw_okq (⟨"LampLeaseOfficeModel", "keep", "()V"⟩, 19) := ⟨⟨by decide +kernel, by decide +kernel⟩, List.mem_of_getElem? (i := 1537) (by decide +kernel), List.mem_of_getElem? (i := 1609) (by decide +kernel), List.mem_of_getElem? (i := 1610) (by decide +kernel)⟩
theorem lw_p36 : lw_okq (⟨"LampLeaseOfficeModel", "doAddShip", "()I"⟩, 19) := ⟨⟨by decide +kernel, by decide +kernel⟩, List.mem_of_getElem? (i := 1537) (by decide +kernel), List.mem_of_getElem? (i := 1614) (by decide +kernel), List.mem_of_getElem? (i := 1615) (by decide +kernel)⟩
theorem lw_p37 : lw_okq (⟨"LampLeaseOfficeModel", "fails", "(I)I"⟩, 19) := ⟨⟨by decide +kernel, by decide +kernel⟩, List.mem_of_getElem? (i := 1537) (by decide +kernel), List.mem_of_getElem? (i := 1618) (by decide +kernel), List.mem_of_getElem? (i := 1619) (by decide +kernel)⟩
theorem lw_p38 : lw_okq (⟨"LampLeaseOfficeModel", "ends", "(I)I"⟩, 19) := ⟨⟨by decide +kernel, by decide +kernel⟩, List.mem_of_getElem? (i := 1537) (by decide +kernel), List.mem_of_getElem? (i := 1622) (by decide +kernel), List.mem_of_getElem? (i := 1623) (by decide +kernel)⟩
theorem lw_p39 : lw_okq (⟨"LampLeaseOfficeModel", "doAddLamp", "(I)I"⟩, 19) := ⟨⟨by decide +kernel, by decide +kernel⟩, List.mem_of_getElem? (i := 1537) (by decide +kernel), List.mem_of_getElem? (i := 1630) (by decide +kernel), List.mem_of_getElem? (i := 1631) (by decide +kernel)⟩
theorem lw_p40 : lw_okq (⟨"LampLeaseOfficeModel", "sets", "(III)V"⟩, 19) := ⟨⟨by decide +kernel, by decide +kernel⟩, List.mem_of_getElem? (i := 1537) (by decide +kernel), List.mem_of_getElem? (i := 1637) (by decide +kernel), List.mem_of_getElem? (i := 1638) (by decide +kernel)⟩
theorem lw_p41 : lw_okq (⟨"LampLeaseOfficeModel", "doAddOil", "(I)I"⟩, 19) := ⟨⟨by decide +kernel, by decide +kernel⟩, List.mem_of_getElem? (i := 1537) (by decide +kernel), List.mem_of_getElem? (i := 1645) (by decide +kernel), List.mem_of_getElem? (i := 1646) (by decide +kernel)⟩
theorem lw_p42 : lw_okq (⟨"LampLeaseOfficeModel", "doLease", "(III)I"⟩, 19) := ⟨⟨by decide +kernel, by decide +kernel⟩, List.mem_of_getElem? (i := 1537) (by decide +kernel), List.mem_of_getElem? (i := 1653) (by decide +kernel), List.mem_of_getElem? (i := 1654) (by decide +kernel)⟩
theorem lw_p43 : lw_okq (⟨"LampLeaseOfficeModel", "isShip", "(I)Z"⟩, 19) := ⟨⟨by decide +kernel, by decide +kernel⟩, List.mem_of_getElem? (i := 1537) (by decide +kernel), List.mem_of_getElem? (i := 1657) (by decide +kernel), List.mem_of_getElem? (i := 1658) (by decide +kernel)⟩
theorem lw_p44 : lw_okq (⟨"LampLeaseOfficeModel", "isLamp", "(I)Z"⟩, 19) := ⟨⟨by decide +kernel, by decide +kernel⟩, List.mem_of_getElem? (i := 1537) (by decide +kernel), List.mem_of_getElem? (i := 1661) (by decide +kernel), List.mem_of_getElem? (i := 1662) (by decide +kernel)⟩
theorem lw_p45 : lw_okq (⟨"LampLeaseOfficeModel", "isOut", "(I)Z"⟩, 19) := ⟨⟨by decide +kernel, by decide +kernel⟩, List.mem_of_getElem? (i := 1537) (by decide +kernel), List.mem_of_getElem? (i := 1665) (by decide +kernel), List.mem_of_getElem? (i := 1666) (by decide +kernel)⟩
theorem lw_p46 : lw_okq (⟨"LampLeaseOfficeModel", "of", "(II)I"⟩, 19) := ⟨⟨by decide +kernel, by decide +kernel⟩, List.mem_of_getElem? (i := 1537) (by decide +kernel), List.mem_of_getElem? (i := 1669) (by decide +kernel), List.mem_of_getElem? (i := 1670) (by decide +kernel)⟩
theorem lw_p47 : lw_okq (⟨"LampLeaseOfficeModel", "ofShip", "(II)I"⟩, 19) := ⟨⟨by decide +kernel, by decide +kernel⟩, List.mem_of_getElem? (i := 1537) (by decide +kernel), List.mem_of_getElem? (i := 1673) (by decide +kernel), List.mem_of_getElem? (i := 1674) (by decide +kernel)⟩
def lw_privs_3 : List (MethodName × Nat) := [(⟨"LampLeaseOffice$CommandText", "isAtDigit", "()Z"⟩, 5), (⟨"LampLeaseOffice", "faultOf", "(LLampLeaseOffice$Command;)C"⟩, 12), (⟨"LampLeaseOffice", "carryOut", "(LLampLeaseOffice$Command;)V"⟩, 12), (⟨"LampLeaseOfficeModel", "keep", "()V"⟩, 19), (⟨"LampLeaseOfficeModel", "doAddShip", "()I"⟩, 19), (⟨"LampLeaseOfficeModel", "fails", "(I)I"⟩, 19), (⟨"LampLeaseOfficeModel", "ends", "(I)I"⟩, 19), (⟨"LampLeaseOfficeModel", "doAddLamp", "(I)I"⟩, 19), (⟨"LampLeaseOfficeModel", "sets", "(III)V"⟩, 19), (⟨"LampLeaseOfficeModel", "doAddOil", "(I)I"⟩, 19), (⟨"LampLeaseOfficeModel", "doLease", "(III)I"⟩, 19), (⟨"LampLeaseOfficeModel", "isShip", "(I)Z"⟩, 19), (⟨"LampLeaseOfficeModel", "isLamp", "(I)Z"⟩, 19), (⟨"LampLeaseOfficeModel", "isOut", "(I)Z"⟩, 19), (⟨"LampLeaseOfficeModel", "of", "(II)I"⟩, 19), (⟨"LampLeaseOfficeModel", "ofShip", "(II)I"⟩, 19)]
theorem lw_r3 : ∀ q ∈ lw_privs_3, lw_okq q := List.forall_mem_cons.mpr ⟨lw_p32, List.forall_mem_cons.mpr ⟨lw_p33, List.forall_mem_cons.mpr ⟨lw_p34, List.forall_mem_cons.mpr ⟨lw_p35, List.forall_mem_cons.mpr ⟨lw_p36, List.forall_mem_cons.mpr ⟨lw_p37, List.forall_mem_cons.mpr ⟨lw_p38, List.forall_mem_cons.mpr ⟨lw_p39, List.forall_mem_cons.mpr ⟨lw_p40, List.forall_mem_cons.mpr ⟨lw_p41, List.forall_mem_cons.mpr ⟨lw_p42, List.forall_mem_cons.mpr ⟨lw_p43, List.forall_mem_cons.mpr ⟨lw_p44, List.forall_mem_cons.mpr ⟨lw_p45, List.forall_mem_cons.mpr ⟨lw_p46, List.forall_mem_cons.mpr ⟨lw_p47, fun _ h => absurd h List.not_mem_nil⟩⟩⟩⟩⟩⟩⟩⟩⟩⟩⟩⟩⟩⟩⟩⟩
theorem lw_p48 : lw_okq (⟨"LampLeaseOfficeModel", "pays", "(II)V"⟩, 19) := ⟨⟨by decide +kernel, by decide +kernel⟩, List.mem_of_getElem? (i := 1537) (by decide +kernel), List.mem_of_getElem? (i := 1677) (by decide +kernel), List.mem_of_getElem? (i := 1678) (by decide +kernel)⟩
theorem lw_p49 : lw_okq (⟨"LampLeaseOfficeModel", "doRequestRenewal", "(II)I"⟩, 19) := ⟨⟨by decide +kernel, by decide +kernel⟩, List.mem_of_getElem? (i := 1537) (by decide +kernel), List.mem_of_getElem? (i := 1685) (by decide +kernel), List.mem_of_getElem? (i := 1686) (by decide +kernel)⟩
theorem lw_p50 : lw_okq (⟨"LampLeaseOfficeModel", "requestFor", "(I)I"⟩, 19) := ⟨⟨by decide +kernel, by decide +kernel⟩, List.mem_of_getElem? (i := 1537) (by decide +kernel), List.mem_of_getElem? (i := 1689) (by decide +kernel), List.mem_of_getElem? (i := 1690) (by decide +kernel)⟩
theorem lw_p51 : lw_okq (⟨"LampLeaseOfficeModel", "doGiveUp", "(I)I"⟩, 19) := ⟨⟨by decide +kernel, by decide +kernel⟩, List.mem_of_getElem? (i := 1537) (by decide +kernel), List.mem_of_getElem? (i := 1697) (by decide +kernel), List.mem_of_getElem? (i := 1698) (by decide +kernel)⟩
theorem lw_p52 : lw_okq (⟨"LampLeaseOfficeModel", "frees", "(I)V"⟩, 19) := ⟨⟨by decide +kernel, by decide +kernel⟩, List.mem_of_getElem? (i := 1537) (by decide +kernel), List.mem_of_getElem? (i := 1701) (by decide +kernel), List.mem_of_getElem? (i := 1702) (by decide +kernel)⟩
theorem lw_p53 : lw_okq (⟨"LampLeaseOfficeModel", "doPassHours", "(I)I"⟩, 19) := ⟨⟨by decide +kernel, by decide +kernel⟩, List.mem_of_getElem? (i := 1537) (by decide +kernel), List.mem_of_getElem? (i := 1709) (by decide +kernel), List.mem_of_getElem? (i := 1710) (by decide +kernel)⟩
theorem lw_p54 : lw_okq (⟨"LampLeaseOfficeModel", "renews", "()V"⟩, 19) := ⟨⟨by decide +kernel, by decide +kernel⟩, List.mem_of_getElem? (i := 1537) (by decide +kernel), List.mem_of_getElem? (i := 1713) (by decide +kernel), List.mem_of_getElem? (i := 1714) (by decide +kernel)⟩
theorem lw_p55 : lw_okq (⟨"LampLeaseOfficeModel", "burns", "()I"⟩, 19) := ⟨⟨by decide +kernel, by decide +kernel⟩, List.mem_of_getElem? (i := 1537) (by decide +kernel), List.mem_of_getElem? (i := 1717) (by decide +kernel), List.mem_of_getElem? (i := 1718) (by decide +kernel)⟩
theorem lw_p56 : lw_okq (⟨"LampLeaseOfficeModel", "fines", "()V"⟩, 19) := ⟨⟨by decide +kernel, by decide +kernel⟩, List.mem_of_getElem? (i := 1537) (by decide +kernel), List.mem_of_getElem? (i := 1721) (by decide +kernel), List.mem_of_getElem? (i := 1722) (by decide +kernel)⟩
theorem lw_p57 : lw_okq (⟨"LampLeaseOfficeModel", "lampsOf", "(IZ)I"⟩, 19) := ⟨⟨by decide +kernel, by decide +kernel⟩, List.mem_of_getElem? (i := 1537) (by decide +kernel), List.mem_of_getElem? (i := 1725) (by decide +kernel), List.mem_of_getElem? (i := 1726) (by decide +kernel)⟩
theorem lw_p58 : lw_okq (⟨"LampLeaseOfficeModel", "endsLeases", "()I"⟩, 19) := ⟨⟨by decide +kernel, by decide +kernel⟩, List.mem_of_getElem? (i := 1537) (by decide +kernel), List.mem_of_getElem? (i := 1730) (by decide +kernel), List.mem_of_getElem? (i := 1731) (by decide +kernel)⟩
theorem lw_p59 : lw_okq (⟨"LampLeaseOfficeModel", "isThere", "(Z)Z"⟩, 19) := ⟨⟨by decide +kernel, by decide +kernel⟩, List.mem_of_getElem? (i := 1537) (by decide +kernel), List.mem_of_getElem? (i := 1746) (by decide +kernel), List.mem_of_getElem? (i := 1747) (by decide +kernel)⟩
theorem lw_p60 : lw_okq (⟨"LampLeaseOfficeModel", "wants", "(I)I"⟩, 19) := ⟨⟨by decide +kernel, by decide +kernel⟩, List.mem_of_getElem? (i := 1537) (by decide +kernel), List.mem_of_getElem? (i := 1762) (by decide +kernel), List.mem_of_getElem? (i := 1763) (by decide +kernel)⟩
theorem lw_p61 : lw_okq (⟨"LampLeaseOfficeModel", "leased", "()I"⟩, 19) := ⟨⟨by decide +kernel, by decide +kernel⟩, List.mem_of_getElem? (i := 1537) (by decide +kernel), List.mem_of_getElem? (i := 1802) (by decide +kernel), List.mem_of_getElem? (i := 1803) (by decide +kernel)⟩
theorem lw_p62 : lw_okq (⟨"LampLeaseOfficeModel", "needed", "()I"⟩, 19) := ⟨⟨by decide +kernel, by decide +kernel⟩, List.mem_of_getElem? (i := 1537) (by decide +kernel), List.mem_of_getElem? (i := 1814) (by decide +kernel), List.mem_of_getElem? (i := 1815) (by decide +kernel)⟩
theorem lw_p63 : lw_okq (⟨"LampLeaseOfficeModel", "partOf", "(I)I"⟩, 19) := ⟨⟨by decide +kernel, by decide +kernel⟩, List.mem_of_getElem? (i := 1537) (by decide +kernel), List.mem_of_getElem? (i := 1844) (by decide +kernel), List.mem_of_getElem? (i := 1845) (by decide +kernel)⟩
def lw_privs_4 : List (MethodName × Nat) := [(⟨"LampLeaseOfficeModel", "pays", "(II)V"⟩, 19), (⟨"LampLeaseOfficeModel", "doRequestRenewal", "(II)I"⟩, 19), (⟨"LampLeaseOfficeModel", "requestFor", "(I)I"⟩, 19), (⟨"LampLeaseOfficeModel", "doGiveUp", "(I)I"⟩, 19), (⟨"LampLeaseOfficeModel", "frees", "(I)V"⟩, 19), (⟨"LampLeaseOfficeModel", "doPassHours", "(I)I"⟩, 19), (⟨"LampLeaseOfficeModel", "renews", "()V"⟩, 19), (⟨"LampLeaseOfficeModel", "burns", "()I"⟩, 19), (⟨"LampLeaseOfficeModel", "fines", "()V"⟩, 19), (⟨"LampLeaseOfficeModel", "lampsOf", "(IZ)I"⟩, 19), (⟨"LampLeaseOfficeModel", "endsLeases", "()I"⟩, 19), (⟨"LampLeaseOfficeModel", "isThere", "(Z)Z"⟩, 19), (⟨"LampLeaseOfficeModel", "wants", "(I)I"⟩, 19), (⟨"LampLeaseOfficeModel", "leased", "()I"⟩, 19), (⟨"LampLeaseOfficeModel", "needed", "()I"⟩, 19), (⟨"LampLeaseOfficeModel", "partOf", "(I)I"⟩, 19)]
theorem lw_r4 : ∀ q ∈ lw_privs_4, lw_okq q := List.forall_mem_cons.mpr ⟨lw_p48, List.forall_mem_cons.mpr ⟨lw_p49, List.forall_mem_cons.mpr ⟨lw_p50, List.forall_mem_cons.mpr ⟨lw_p51, List.forall_mem_cons.mpr ⟨lw_p52, List.forall_mem_cons.mpr ⟨lw_p53, List.forall_mem_cons.mpr ⟨lw_p54, List.forall_mem_cons.mpr ⟨lw_p55, List.forall_mem_cons.mpr ⟨lw_p56, List.forall_mem_cons.mpr ⟨lw_p57, List.forall_mem_cons.mpr ⟨lw_p58, List.forall_mem_cons.mpr ⟨lw_p59, List.forall_mem_cons.mpr ⟨lw_p60, List.forall_mem_cons.mpr ⟨lw_p61, List.forall_mem_cons.mpr ⟨lw_p62, List.forall_mem_cons.mpr ⟨lw_p63, fun _ h => absurd h List.not_mem_nil⟩⟩⟩⟩⟩⟩⟩⟩⟩⟩⟩⟩⟩⟩⟩⟩
theorem lw_p64 : lw_okq (⟨"LampLeaseOfficeModel", "isRequest", "(I)Z"⟩, 19) := ⟨⟨by decide +kernel, by decide +kernel⟩, List.mem_of_getElem? (i := 1537) (by decide +kernel), List.mem_of_getElem? (i := 1861) (by decide +kernel), List.mem_of_getElem? (i := 1862) (by decide +kernel)⟩
theorem lw_p65 : lw_okq (⟨"LampLeaseOfficeModel", "says", "(C)V"⟩, 19) := ⟨⟨by decide +kernel, by decide +kernel⟩, List.mem_of_getElem? (i := 1537) (by decide +kernel), List.mem_of_getElem? (i := 1901) (by decide +kernel), List.mem_of_getElem? (i := 1902) (by decide +kernel)⟩
theorem lw_p66 : lw_okq (⟨"LampLeaseOfficeModel", "saysNumber", "(I)V"⟩, 19) := ⟨⟨by decide +kernel, by decide +kernel⟩, List.mem_of_getElem? (i := 1537) (by decide +kernel), List.mem_of_getElem? (i := 1905) (by decide +kernel), List.mem_of_getElem? (i := 1906) (by decide +kernel)⟩
theorem lw_p67 : lw_okq (⟨"LampLeaseOfficeModel", "readCommand", "()V"⟩, 19) := ⟨⟨by decide +kernel, by decide +kernel⟩, List.mem_of_getElem? (i := 1537) (by decide +kernel), List.mem_of_getElem? (i := 1921) (by decide +kernel), List.mem_of_getElem? (i := 1922) (by decide +kernel)⟩
theorem lw_p68 : lw_okq (⟨"LampLeaseOfficeModel", "behind", "(I)I"⟩, 19) := ⟨⟨by decide +kernel, by decide +kernel⟩, List.mem_of_getElem? (i := 1537) (by decide +kernel), List.mem_of_getElem? (i := 1925) (by decide +kernel), List.mem_of_getElem? (i := 1926) (by decide +kernel)⟩
theorem lw_p69 : lw_okq (⟨"LampLeaseOfficeModel", "skip", "(Ljava/lang/String;)V"⟩, 19) := ⟨⟨by decide +kernel, by decide +kernel⟩, List.mem_of_getElem? (i := 1537) (by decide +kernel), List.mem_of_getElem? (i := 1931) (by decide +kernel), List.mem_of_getElem? (i := 1932) (by decide +kernel)⟩
theorem lw_p70 : lw_okq (⟨"LampLeaseOfficeModel", "readNumber", "(I)I"⟩, 19) := ⟨⟨by decide +kernel, by decide +kernel⟩, List.mem_of_getElem? (i := 1537) (by decide +kernel), List.mem_of_getElem? (i := 1937) (by decide +kernel), List.mem_of_getElem? (i := 1938) (by decide +kernel)⟩
theorem lw_p71 : lw_okq (⟨"LampLeaseOfficeModel", "isDigit", "()Z"⟩, 19) := ⟨⟨by decide +kernel, by decide +kernel⟩, List.mem_of_getElem? (i := 1537) (by decide +kernel), List.mem_of_getElem? (i := 1942) (by decide +kernel), List.mem_of_getElem? (i := 1943) (by decide +kernel)⟩
theorem lw_p72 : lw_okq (⟨"LampLeaseOfficeModel", "does", "(I)Ljava/lang/String;"⟩, 19) := ⟨⟨by decide +kernel, by decide +kernel⟩, List.mem_of_getElem? (i := 1537) (by decide +kernel), List.mem_of_getElem? (i := 1951) (by decide +kernel), List.mem_of_getElem? (i := 1952) (by decide +kernel)⟩
def lw_privs_5 : List (MethodName × Nat) := [(⟨"LampLeaseOfficeModel", "isRequest", "(I)Z"⟩, 19), (⟨"LampLeaseOfficeModel", "says", "(C)V"⟩, 19), (⟨"LampLeaseOfficeModel", "saysNumber", "(I)V"⟩, 19), (⟨"LampLeaseOfficeModel", "readCommand", "()V"⟩, 19), (⟨"LampLeaseOfficeModel", "behind", "(I)I"⟩, 19), (⟨"LampLeaseOfficeModel", "skip", "(Ljava/lang/String;)V"⟩, 19), (⟨"LampLeaseOfficeModel", "readNumber", "(I)I"⟩, 19), (⟨"LampLeaseOfficeModel", "isDigit", "()Z"⟩, 19), (⟨"LampLeaseOfficeModel", "does", "(I)Ljava/lang/String;"⟩, 19)]
theorem lw_r5 : ∀ q ∈ lw_privs_5, lw_okq q := List.forall_mem_cons.mpr ⟨lw_p64, List.forall_mem_cons.mpr ⟨lw_p65, List.forall_mem_cons.mpr ⟨lw_p66, List.forall_mem_cons.mpr ⟨lw_p67, List.forall_mem_cons.mpr ⟨lw_p68, List.forall_mem_cons.mpr ⟨lw_p69, List.forall_mem_cons.mpr ⟨lw_p70, List.forall_mem_cons.mpr ⟨lw_p71, List.forall_mem_cons.mpr ⟨lw_p72, fun _ h => absurd h List.not_mem_nil⟩⟩⟩⟩⟩⟩⟩⟩⟩
def lw_privs : List (MethodName × Nat) := lw_privs_1 ++ (lw_privs_2 ++ (lw_privs_3 ++ (lw_privs_4 ++ (lw_privs_5))))
def lw_tbl : List Cond := k2_sels lw_privs ++ tables_1
theorem lw_privs_ok : ∀ q ∈ lw_privs, lw_okq q := by
  show ∀ q ∈ lw_privs_1 ++ (lw_privs_2 ++ (lw_privs_3 ++ (lw_privs_4 ++ (lw_privs_5)))), lw_okq q
  exact List.forall_mem_append.mpr ⟨lw_r1, List.forall_mem_append.mpr ⟨lw_r2, List.forall_mem_append.mpr ⟨lw_r3, List.forall_mem_append.mpr ⟨lw_r4, lw_r5⟩⟩⟩⟩
/-- the streams that the claim lets the run draw from -/
abbrev lw_cs : List Choice := [Jvm.Choice.named "NaN.bits"]
theorem lw_bits : nanBits ∈ lw_cs := by first | decide | exact List.mem_cons_self | simp [lw_cs, nanBits]
-- ===== end of PART A; then your names; then what follows =====
/-! ===== BEGIN words of one list among another's, by their places ===== -/
theorem goodIn_r {big : List Cond} (ws : List Cond) (ps : List Nat) (hp : ws = ps.filterMap (fun i => big[i]?)) (h : ws.all goodWord = true) : GoodIn big ws := by
  intro w hw
  have h1 := List.all_eq_true.mp h w hw
  rw [hp] at hw
  obtain ⟨i, -, hi⟩ := List.mem_filterMap.mp hw
  have hm : w ∈ big := by first | exact List.mem_of_getElem? hi | exact List.getElem?_mem hi
  exact ⟨hm, good_of_word h1⟩
theorem goodIn_app {big a b : List Cond} (ha : GoodIn big a) (hb : GoodIn big b) : GoodIn big (a ++ b) := fun w h => (List.mem_append.mp h).elim (ha w) (hb w)
theorem goodIn_ca {big a b : List Cond} {c : Cond} (ha : GoodIn big (c :: a)) (hb : GoodIn big b) : GoodIn big (c :: (a ++ b)) := fun w h => (List.mem_cons.mp h).elim (fun e => ha w (List.mem_cons.mpr (Or.inl e))) (fun h => (List.mem_append.mp h).elim (fun h => ha w (List.mem_cons.mpr (Or.inr h))) (hb w))
theorem goodIn_sub {big ws : List Cond} (hm : ∀ w ∈ ws, w ∈ big) (h : ws.all goodWord = true) : GoodIn big ws := fun w hw => ⟨hm w hw, good_of_word (List.all_eq_true.mp h w hw)⟩
/-! ===== END ===== -/
/-! ===== BEGIN exceptions that leave a method, and their catching by the caller (launches without stack traces) ===== -/
section VXA
/-! The laws vx_back, vx_callV, vx_callS, vx_callSW, vx_throw0, vx_throwS follow proofs of the library, with one case more: JvmDerived/Free/Laws.lean (Back.of_free), Shelf42/LK1.lean (callV, callS), Shelf/KitTraced.lean (throwNew0V, throwNewS). -/
/-- where a method has thrown q: the class by its name, the cell, what was written, the world -/
def vx_T (XC : String → State → State → Prop) (st : State) (q : Addr) (t : State) (mc ms : Nat) (free : Addr → Prop) : Prop :=
  ∃ (E : String) (ce : Cell) (L : List Loc), XC E st t ∧ t.heap[q]? = some ce ∧ ce.vm = .none ∧ st.vm.findClass E = some ce.cls ∧ st.WarmedH t.vm ∧ st.sameButNew ({ t with vm := st.vm } : State) L mc ms ∧ ∀ z ∈ L, free z.base
def vx_Q (Qc : Array Value → State → Outcome → State → Prop) (XC : String → State → State → Prop) (mc ms : Nat) (free : Addr → Prop) : Array Value → State → Outcome → State → Prop := fun a st o t =>
  (Qc a st o t ∧ ∃ L, FrameEnd st o t L mc ms ∧ ∀ q ∈ L, free q.base) ∨ ∃ q, o = .threw q ∧ vx_T XC st q t mc ms free
/-- a callee that returns or throws -/
def vx_Met (l : Launch) (y : MethodName) (ws : List Cond) (rm : Room) (Pc : Array Value → State → Prop) (Qc : Array Value → State → Outcome → State → Prop) (XC : String → State → State → Prop) (mc ms : Nat) (free : Addr → Prop) : Prop :=
  MetFree l y (headSpec ws rm) Pc (fun _ _ _ _ _ => True) (vx_Q Qc XC mc ms free)
def vx_Post (XC : String → State → State → Prop) (mc ms : Nat) (free : Addr → Prop) : Pt → Array Value → Addr → Pt → Prop := fun A a q B =>
  ∃ (g : JFrame) (mk : MethodId) (t : State) (L : List Loc) (E : String) (ce : Cell), B.U.heap = t.heap ∧ B.U.vm = t.vm ∧ XC E (A.U.calling g mk a) t ∧ t.heap[q]? = some ce ∧ ce.vm = .none ∧ A.U.vm.findClass E = some ce.cls ∧ B.locs = A.locs ++ L ∧ (∀ z ∈ L, free z.base) ∧ B.cells = A.cells + mc ∧ B.slots = A.slots + ms
def vx_Back (l : Launch) (R : Room) (p : Program) (e : Env) (below : List Frame) (s : State) (sargs : Array Value) (y : MethodName) (len W9 : Nat)
    (Pre : Pt → Array Value → Prop) (Post : Pt → Array Value → Option Value → Pt → Prop) (PostX : Pt → Array Value → Addr → Pt → Prop) : Prop :=
  ∀ (m : MethodId) (meth : Method) (c : Code) (A : Pt) (g : JFrame) (ig : Instr) (mk : MethodId) (a : Array Value),
    Stand p l e R s m sargs below meth c A.U A.locs A.cells A.slots → g.method = m → g.locals.size = c.maxLocals → decode c.code g.pc = .ok (ig, len) →
    2 * g.monitorRoom + (g.stack.map fun v => v.category).sum ≤ W9 → A.U.methodNamed? y = some mk → Pre A a →
    (∃ (v : Option Value) (B : Pt), Stand p l e R s m sargs below meth c B.U B.locs B.cells B.slots ∧ Post A a v B ∧
      Steps p.tables e below (doInvoke e (A.U.setTop g) [] mk a).1 (B.U.setTop { g with pc := g.pc + len, stack := v.toList ++ g.stack })) ∨
    (∃ (q : Addr) (B : Pt), Stand p l e R s m sargs below meth c B.U B.locs B.cells B.slots ∧ PostX A a q B ∧
      Steps p.tables e below (doInvoke e (A.U.setTop g) [] mk a).1 ((B.U.setTop g).pushFrame (.throwing q)))
section Payer
variable {l : Launch} {R : Room} {p : Program} {e : Env} {below : List Frame} {s : State} {sargs : Array Value} {y : MethodName} {len W9 : Nat}
theorem vx_back {ws : List Cond} {rm : Room} {Pc : Array Value → State → Prop} {Qc : Array Value → State → Outcome → State → Prop} {XC : String → State → State → Prop} {mc ms : Nat} {free : Addr → Prop} {bytes : ByteArray} {maxL : Nat} {ret : Option FieldType}
    (hM : vx_Met l y ws rm Pc Qc XC mc ms free) (hblind : FrameBlind Pc) (hrc : rm.cells = mc) (hrs : rm.slots = ms)
    (hframes : rm.frames + 1 ≤ R.frames) (hlocals : W9 + (maxL + 11) + rm.locals ≤ R.locals)
    (hws : ∀ w ∈ ws, ∀ a' U, s.WarmedH U.vm → w.before a' U = true) (hcode : Cond.code y bytes maxL ret ∈ ws) (hinit : ∀ a' U, s.WarmedH U.vm → (Cond.initialized y.cls).before a' U = true) :
    vx_Back l R p e below s sargs y len W9 (PreOf R mc ms Pc) (PostOf Qc mc ms free) (vx_Post XC mc ms free) := by
  intro m meth c A g ig mk a X hg hsize hdg hW hn hp
  have h1 : (headSpec ws rm).pre.before a A.U = true := atoms_intro fun w hw => hws w hw _ _ X.warmed
  have h2 : (Cond.code y bytes maxL ret).before a A.U = true := hws _ hcode _ _ X.warmed
  have h3 : (Cond.initialized y.cls).before a A.U = true := hinit _ _ X.warmed
  have h4 : A.cells + (headSpec ws rm).room.cells ≤ R.cells := by rw [show (headSpec ws rm).room.cells = mc from hrc]; exact hp.1
  have h5 : A.slots + (headSpec ws rm).room.slots ≤ R.slots := by rw [show (headSpec ws rm).room.slots = ms from hrs]; exact hp.2.1
  have hPc : Pc a (A.U.calling g mk a) := hblind _ _ _ _ hp.2.2
  obtain ⟨U, Ls, c0, s0⟩ := A
  dsimp only [Pt.U, Pt.locs, Pt.cells, Pt.slots] at h1 h2 h3 h4 h5 X hn hPc ⊢
  obtain ⟨methY, cY, hmY, hcY, -, hlY, -, -, -, -⟩ := Cond.code_spec hn h2
  obtain ⟨kY, hkY, -⟩ := className_of_methodNamed hn
  have hinitY : kY.init = .initialized := Cond.initialized_spec (findClass_of_methodNamed hn) hkY h3
  have h : At U g.method c below := by rw [hg]; exact X.here
  have hlocals9 : W9 + (maxL + 11) + (headSpec ws rm).room.locals ≤ R.locals := hlocals
  have happ : (headSpec ws rm).appliesLoose y e.platform (U.calling g mk a) = true :=
    Spec.appliesLoose_calling (g := g) h hdg hn hkY hinitY
      (X.room_calling (g := g) (R' := (headSpec ws rm).room) hsize hmY hcY hframes (by rw [hlY]; omega) h4 h5) h1
  obtain ⟨mid, hmid⟩ := h.above
  have hfr : (U.setTop g).frames = (.java g :: mid) ++ below := by rw [State.frames_setTop' g h.top, hmid]; rfl
  obtain ⟨o, s₂, hsteps, -, hend, hq⟩ := Steps.callFree hM p X.admits X.cas X.clock (acts := []) hfr happ hPc trivial
  have hq' : vx_Q Qc XC mc ms free a (U.calling g mk a) o s₂ := hq
  rw [State.frames_setTop' g h.top] at hend
  obtain ⟨g₀, hg0⟩ := Option.isSome_iff_exists.mp h.top
  obtain ⟨r, hr⟩ := State.topJava?_eq_some.mp hg0
  have hr' : (({ U with heap := s₂.heap, slotsUsed := s₂.slotsUsed } : State).setVm s₂.vm).frames = .java g₀ :: r := hr
  rcases hq' with ⟨hqc, L, hfe, hL⟩ | ⟨q, rfl, E, ce, L, hx, hce, hcv, hcl, hW₂, hsm, hL⟩
  · obtain ⟨⟨v, rfl⟩, hW₂, e2, q2, q3, q4, q5, q6⟩ := id hfe
    have e3 : s₂ = ({ (U.calling g mk a).setFrames s₂.frames with heap := s₂.heap, slotsUsed := s₂.slotsUsed } : State).setVm s₂.vm := by
      have : s₂ = ({ s₂ with vm := (U.calling g mk a).vm } : State).setVm s₂.vm := rfl
      rw [e2] at this
      exact this
    obtain ⟨c₂, i₂, len₂, hc₂, hd₂, hf₂⟩ := hend
    have hW' : U.WarmedH s₂.vm := hW₂
    have hcc : c₂ = c := by
      have h1 : s₂.code? g.method = U.code? g.method := by
        rw [State.code?_eq, State.code?_eq, hW'.alike.method?]
      exact Option.some.inj (hc₂.symm.trans (h1.trans h.code))
    subst hcc
    have hlen : len₂ = len := by rw [hdg] at hd₂; cases hd₂; rfl
    subst hlen
    have hs₂ : s₂ = (({ U with heap := s₂.heap, slotsUsed := s₂.slotsUsed } : State).setVm s₂.vm).setTop { g with pc := g.pc + len₂, stack := v.toList ++ g.stack } := by
      refine e3.trans ?_
      rw [hf₂, State.calling_eq h.top, State.setFrames_setFrames, State.setTop_of_frames _ hr', hr]
      rfl
    have hsame : U.sameButNew ({ U with heap := s₂.heap, slotsUsed := s₂.slotsUsed } : State) L mc ms := by
      refine ⟨?_, q2, q3, q4, q5, q6⟩
      obtain ⟨t, ht, -⟩ := State.frames_cons hr
      show ({ U with heap := s₂.heap, slotsUsed := s₂.slotsUsed } : State) = { U.setFrames U.frames with heap := s₂.heap, slotsUsed := s₂.slotsUsed }
      rw [State.setFrames_self ht]
    subst hg
    refine Or.inl ⟨v, ⟨(({ U with heap := s₂.heap, slotsUsed := s₂.slotsUsed } : State).setVm s₂.vm), Ls ++ L, c0 + mc, s0 + ms⟩,
      ⟨X.admits, X.cas, X.clock, X.frames, X.room, X.hears, X.method, X.code, (X.here.setHeapUsed s₂.heap s₂.slotsUsed).setVm hW'.alike, X.tail, State.WarmedH.trans X.warmed hW', X.limits, X.bytes, X.same.trans (hsame.setVm s.vm)⟩,
      ⟨g, mk, s₂, L, rfl, rfl, hqc, rfl, hL, rfl, rfl⟩, ?_⟩
    show Steps p.tables e below _ ((({ U with heap := s₂.heap, slotsUsed := s₂.slotsUsed } : State).setVm s₂.vm).setTop { g with pc := g.pc + len₂, stack := v.toList ++ g.stack })
    rw [← hs₂]
    exact hsteps
  · obtain ⟨e2, q2, q3, q4, q5, q6⟩ := id hsm
    have e3 : s₂ = ({ (U.calling g mk a).setFrames s₂.frames with heap := s₂.heap, slotsUsed := s₂.slotsUsed } : State).setVm s₂.vm := by
      have : s₂ = ({ s₂ with vm := (U.calling g mk a).vm } : State).setVm s₂.vm := rfl
      rw [e2] at this
      exact this
    have hf₂ : s₂.frames = .throwing q :: .java g :: U.frames.tail := hend
    have hW' : U.WarmedH s₂.vm := hW₂
    have hs₂ : s₂ = ((({ U with heap := s₂.heap, slotsUsed := s₂.slotsUsed } : State).setVm s₂.vm).setTop g).pushFrame (.throwing q) := by
      refine e3.trans ?_
      rw [hf₂, State.calling_eq h.top, State.setFrames_setFrames, State.pushFrame, State.frames_setTop _ hr', State.setTop_of_frames _ hr', State.setFrames_setFrames, hr]
      rfl
    have hsame : U.sameButNew ({ U with heap := s₂.heap, slotsUsed := s₂.slotsUsed } : State) L mc ms := by
      refine ⟨?_, q2, q3, q4, q5, q6⟩
      obtain ⟨t, ht, -⟩ := State.frames_cons hr
      show ({ U with heap := s₂.heap, slotsUsed := s₂.slotsUsed } : State) = { U.setFrames U.frames with heap := s₂.heap, slotsUsed := s₂.slotsUsed }
      rw [State.setFrames_self ht]
    subst hg
    refine Or.inr ⟨q, ⟨(({ U with heap := s₂.heap, slotsUsed := s₂.slotsUsed } : State).setVm s₂.vm), Ls ++ L, c0 + mc, s0 + ms⟩,
      ⟨X.admits, X.cas, X.clock, X.frames, X.room, X.hears, X.method, X.code, (X.here.setHeapUsed s₂.heap s₂.slotsUsed).setVm hW'.alike, X.tail, State.WarmedH.trans X.warmed hW', X.limits, X.bytes, X.same.trans (hsame.setVm s.vm)⟩,
      ⟨g, mk, s₂, L, E, ce, rfl, rfl, hx, hce, hcv, hcl, rfl, hL, rfl, rfl⟩, ?_⟩
    show Steps p.tables e below _ (((({ U with heap := s₂.heap, slotsUsed := s₂.slotsUsed } : State).setVm s₂.vm).setTop g).pushFrame (.throwing q))
    rw [← hs₂]
    exact hsteps
end Payer
section Calls
variable {p : Program} {l : Launch} {e : Env} {R : Room} {s : State} {m : MethodId} {args : Array Value} {below : List Frame} {meth : Method} {c : Code} {T : State} {locs : List Loc} {cells slots : Nat}
theorem vx_callV (X : Stand p l e R s m args below meth c T locs cells slots) (hexec : p.tables.exec = Jvm.exec) {own C : String} {index : Nat} {y : MethodName} {bytes : ByteArray} {maxL : Nat} {ret : Option FieldType}
    (hown : s.vm.findClass own = some m.cls) (hlink : (Cond.methodLink own index y).before args s = true) (hinst : (Cond.instanceMethod y).before args s = true) (hsel : (Cond.selects C y y).before args s = true)
    (hcode : (Cond.code y bytes maxL ret).before args s = true) (hy : y.cls ≠ "java/lang/invoke/MethodHandle" ∧ y.cls ≠ "java/lang/invoke/VarHandle")
    {W9 : Nat} {Pre : Pt → Array Value → Prop} {Post : Pt → Array Value → Option Value → Pt → Prop} {PostX : Pt → Array Value → Addr → Pt → Prop} (hK : vx_Back l R p e below s args y 3 W9 Pre Post PostX)
    {b : Addr} {cellB : Cell} (hcell : T.heap[b]? = some cellB) (hobj : cellB.vm.isStatics = false) (hcls : s.vm.findClass C = some cellB.cls)
    {g : JFrame} (hg : g.method = m) (hsize : g.locals.size = c.maxLocals) {argsL rest : List Value} (hlen : ∀ sig, parseMethodDescriptor y.desc = some sig → argsL.length = sig.parameters.length)
    (hstack : g.stack = argsL.reverse ++ .ref b :: rest) (hW : 2 * g.monitorRoom + (rest.map fun v => v.category).sum ≤ W9) (hdg : decode c.code g.pc = .ok (.invokevirtual index, 3))
    (hpre : ∀ vm₁, s.WarmedH vm₁ → Pre ⟨T.setVm vm₁, locs, cells, slots⟩ (Value.ref b :: argsL).toArray) :
    (∃ (v : Option Value) (vm₁ : Vm) (B : Pt), s.WarmedH vm₁ ∧ Stand p l e R s m args below meth c B.U B.locs B.cells B.slots ∧ Post ⟨T.setVm vm₁, locs, cells, slots⟩ (Value.ref b :: argsL).toArray v B ∧
      ∀ target, Steps p.tables e below (B.U.setTop { g with pc := g.pc + 3, stack := v.toList ++ rest }) target → Steps p.tables e below (T.setTop g) target) ∨
    (∃ (q : Addr) (vm₁ : Vm) (B : Pt), s.WarmedH vm₁ ∧ Stand p l e R s m args below meth c B.U B.locs B.cells B.slots ∧ PostX ⟨T.setVm vm₁, locs, cells, slots⟩ (Value.ref b :: argsL).toArray q B ∧
      Steps p.tables e below (T.setTop g) ((B.U.setTop { g with stack := rest }).pushFrame (.throwing q))) := by
  obtain ⟨mk, methM, hnamed, hmethM, hstM, habM⟩ := Cond.instanceMethod_spec hinst
  obtain ⟨methM', cM, hmethM', -, -, -, -, -, -, hsigM⟩ := Cond.code_spec hnamed hcode
  cases hmethM.symm.trans hmethM'
  obtain ⟨c2, r2, m2, q1, q2, q3, q4, kP, hkP, hkPi⟩ := Cond.selects_spec hsel
  cases hcls.symm.trans q1
  cases (State.methodFound?_of_named hnamed hy).symm.trans q2
  cases hnamed.symm.trans q3
  have hselP : selectMethod e.platform s.vm cellB.cls mk = .method mk := by rw [Launch.admits_selectMethod X.admits]; exact q4
  obtain ⟨vm₁, X₁, hstep₁⟩ := X.invokevirtual hexec hown hlink hnamed hmethM hstM hkP hkPi hy (a := b) (cell := cellB) hcell
    (fun z h => by rw [h] at hobj; cases hobj) hselP hmethM habM hkP hkPi (g := g) hg (argsL := argsL) (rest := rest) (hlen _ hsigM) hstack hdg
  rcases hK m meth c ⟨T.setVm vm₁, locs, cells, slots⟩ { g with stack := rest } (.invokevirtual index) mk (Value.ref b :: argsL).toArray X₁ hg hsize hdg hW (X₁.named hnamed) (hpre vm₁ X₁.warmed) with ⟨v, B, X', hpost, hsteps⟩ | ⟨q, B, X', hpost, hsteps⟩
  · exact Or.inl ⟨v, vm₁, B, X₁.warmed, X', hpost, fun target h => hstep₁ _ fun acts => by rw [doInvoke_state]; exact hsteps.trans h⟩
  · exact Or.inr ⟨q, vm₁, B, X₁.warmed, X', hpost, hstep₁ _ fun acts => by rw [doInvoke_state]; exact hsteps⟩
theorem vx_callS (X : Stand p l e R s m args below meth c T locs cells slots) (hexec : p.tables.exec = Jvm.exec) {own : String} {index : Nat} {y : MethodName} {bytes : ByteArray} {maxL : Nat} {ret : Option FieldType}
    (hown : s.vm.findClass own = some m.cls) (hlink : (Cond.methodLink own index y).before args s = true) (hstat : (Cond.static y).before args s = true) (hinit : (Cond.initialized y.cls).before args s = true)
    (hcode : (Cond.code y bytes maxL ret).before args s = true) (hy : y.cls ≠ "java/lang/invoke/MethodHandle" ∧ y.cls ≠ "java/lang/invoke/VarHandle")
    {W9 : Nat} {Pre : Pt → Array Value → Prop} {Post : Pt → Array Value → Option Value → Pt → Prop} {PostX : Pt → Array Value → Addr → Pt → Prop} (hK : vx_Back l R p e below s args y 3 W9 Pre Post PostX)
    {g : JFrame} (hg : g.method = m) (hsize : g.locals.size = c.maxLocals) {argsL rest : List Value} (hlen : ∀ sig, parseMethodDescriptor y.desc = some sig → argsL.length = sig.parameters.length)
    (hstack : g.stack = argsL.reverse ++ rest) (hW : 2 * g.monitorRoom + (rest.map fun v => v.category).sum ≤ W9) (hdg : decode c.code g.pc = .ok (.invokestatic index, 3))
    (hpre : ∀ vm₁, s.WarmedH vm₁ → Pre ⟨T.setVm vm₁, locs, cells, slots⟩ argsL.toArray) :
    (∃ (v : Option Value) (vm₁ : Vm) (B : Pt), s.WarmedH vm₁ ∧ Stand p l e R s m args below meth c B.U B.locs B.cells B.slots ∧ Post ⟨T.setVm vm₁, locs, cells, slots⟩ argsL.toArray v B ∧
      ∀ target, Steps p.tables e below (B.U.setTop { g with pc := g.pc + 3, stack := v.toList ++ rest }) target → Steps p.tables e below (T.setTop g) target) ∨
    (∃ (q : Addr) (vm₁ : Vm) (B : Pt), s.WarmedH vm₁ ∧ Stand p l e R s m args below meth c B.U B.locs B.cells B.slots ∧ PostX ⟨T.setVm vm₁, locs, cells, slots⟩ argsL.toArray q B ∧
      Steps p.tables e below (T.setTop g) ((B.U.setTop { g with stack := rest }).pushFrame (.throwing q))) := by
  obtain ⟨mk, hnamed⟩ := Cond.code_named hcode
  obtain ⟨methM, cM, hmethM, -, -, -, -, -, -, hsigM⟩ := Cond.code_spec hnamed hcode
  have hstatic : methM.isStatic = true := Cond.static_spec hnamed hmethM hstat
  obtain ⟨kP, hkP, -⟩ := className_of_methodNamed hnamed
  have hinitP : kP.init = .initialized := Cond.initialized_spec (findClass_of_methodNamed hnamed) hkP hinit
  obtain ⟨vm₁, X₁, hstep₁⟩ := X.invokestatic hexec hown hlink hnamed hmethM hstatic hkP hinitP hy (g := g) hg (argsL := argsL) (rest := rest) (hlen _ hsigM) hstack hdg
  rcases hK m meth c ⟨T.setVm vm₁, locs, cells, slots⟩ { g with stack := rest } (.invokestatic index) mk argsL.toArray X₁ hg hsize hdg hW (X₁.named hnamed) (hpre vm₁ X₁.warmed) with ⟨v, B, X', hpost, hsteps⟩ | ⟨q, B, X', hpost, hsteps⟩
  · exact Or.inl ⟨v, vm₁, B, X₁.warmed, X', hpost, fun target h => hstep₁ _ fun acts => by rw [doInvoke_state]; exact hsteps.trans h⟩
  · exact Or.inr ⟨q, vm₁, B, X₁.warmed, X', hpost, hstep₁ _ fun acts => by rw [doInvoke_state]; exact hsteps⟩
end Calls
theorem vx_cls {s : State} {T : State} {vm₁ : Vm} {E : String} {k : ClassId} (hW : s.WarmedH vm₁) (h : (T.setVm vm₁).vm.findClass E = some k) : s.vm.findClass E = some k := by
  have h1 : vm₁.findClass E = some k := h
  rw [hW.alike.findClass] at h1
  exact h1
/-- the method's frame g, with q thrown over it -/
def vx_W (p : Program) (l : Launch) (e : Env) (R : Room) (s : State) (m : MethodId) (args : Array Value) (below : List Frame) (meth : Method) (c : Code) (H : Heap) (locs : List Loc) (cells slots : Nat) (Q : State → Prop) (g : JFrame) (q : Addr) : Prop :=
  ∀ T : State, T.heap = H → Stand p l e R s m args below meth c T locs cells slots → ∃ t, Steps p.tables e below ((T.setTop g).pushFrame (.throwing q)) t ∧ Q t
def vx_Run (p : Program) (l : Launch) (e : Env) (R : Room) (s : State) (m : MethodId) (args : Array Value) (below : List Frame) (meth : Method) (c : Code) (H : Heap) (locs : List Loc) (cells slots mc ms : Nat) (g : JFrame) (rest : List Value) (Qa : State → Outcome → State → Prop) (XC : String → State → State → Prop) (free : Addr → Prop) : Prop :=
  ∀ T : State, T.heap = H → Stand p l e R s m args below meth c T locs cells slots →
    (∃ (v : Option Value) (st₀ t T' : State) (L : List Loc), st₀.heap = H ∧ Stand p l e R s m args below meth c T' (locs ++ L) (cells + mc) (slots + ms) ∧ (∀ q ∈ L, free q.base) ∧ T'.heap = t.heap ∧ T'.vm = t.vm ∧ Qa st₀ (.returned v) t ∧
      Goes p e below T g T' { g with pc := g.pc + 3, stack := v.toList ++ rest }) ∨
    (∃ (q : Addr) (st₀ t T' : State) (L : List Loc) (E : String) (ce : Cell), st₀.heap = H ∧ Stand p l e R s m args below meth c T' (locs ++ L) (cells + mc) (slots + ms) ∧ (∀ z ∈ L, free z.base) ∧ T'.heap = t.heap ∧ T'.vm = t.vm ∧ XC E st₀ t ∧ t.heap[q]? = some ce ∧ ce.vm = .none ∧ s.vm.findClass E = some ce.cls ∧
      Steps p.tables e below (T.setTop g) ((T'.setTop { g with stack := rest }).pushFrame (.throwing q)))
def vx_X {S : Type} (px : S → Prop) (B : String → S → State → Prop) (A : Nat → Prop) : String → State → State → Prop := fun E st t => ∃ u : S, px u ∧ B E u t ∧ va_F A st t
section Runs
variable {p : Program} {l : Launch} {e : Env} {R : Room} {s : State} {m : MethodId} {args : Array Value} {below : List Frame} {meth : Method} {c : Code} {H : Heap} {locs : List Loc} {cells slots : Nat}
variable {y : MethodName} {bytes cc : ByteArray} {maxL nL mc ms n index : Nat} {ret : Option FieldType} {ws : List Cond} {rm : Room} {Pc : Array Value → State → Prop} {Qc : Array Value → State → Outcome → State → Prop} {XC : String → State → State → Prop} {free : Addr → Prop} {Ts : List Cond} {own C : String} {b : Addr} {As rest : List Value} {g : JFrame}
theorem vx_callBack (cb : CallB R s args own index y bytes maxL ret ws rm mc ms n) (hM : vx_Met l y ws rm Pc Qc XC mc ms free) (hbl : FrameBlind Pc) : vx_Back l R p e below s args y 3 8 (PreOf R mc ms Pc) (PostOf Qc mc ms free) (vx_Post XC mc ms free) := by
  obtain ⟨hrc, hrs, hfr, hlo, hws, hcw, -, hini, -⟩ := cb
  exact vx_back (bytes := bytes) (maxL := maxL) (ret := ret) hM hbl hrc hrs hfr hlo hws hcw (fun a' U hW => word_at hW (Or.inl (by first | rfl | simp [Cond.onTables, Cond.keeps, Cond.steady])) hini)
theorem vx_runV (S : CallFix p m c cc nL s args Ts own) (hM : vx_Met l y ws rm Pc Qc XC mc ms free) (cw : CallW R s args own C index y bytes maxL ret ws rm mc ms n) (hp : PreV s H C b Pc As)
    (hg : g.method = m) (hn : As.length = n) (hsize : g.locals.size = nL) (hstack : g.stack = As.reverse ++ .ref b :: rest) (hW : 2 * g.monitorRoom + (rest.map fun v => v.category).sum ≤ 8) (hdg : decode cc g.pc = .ok (.invokevirtual index, 3)) (hf : cells + mc ≤ R.cells ∧ slots + ms ≤ R.slots) :
    vx_Run p l e R s m args below meth c H locs cells slots mc ms g rest (Qc (Value.ref b :: As).toArray) XC free := by
  have hK : vx_Back l R p e below s args y 3 8 (PreOf R mc ms Pc) (PostOf Qc mc ms free) (vx_Post XC mc ms free) := vx_callBack cw.1 hM hp.1
  obtain ⟨⟨-, -, -, -, -, -, hcode, -, hy, hlen, hl⟩, hin, hse⟩ := cw
  obtain ⟨hx, hb, hml, ho, -⟩ := S
  obtain ⟨-, ⟨cellB, hcB, hoB, hclB⟩, hPc⟩ := hp
  intro T hT X
  rcases vx_callV X hx (C := C) (bytes := bytes) (maxL := maxL) (ret := ret) ho hl hin hse hcode hy hK (by rw [hT]; exact hcB) hoB hclB hg (hsize.trans hml.symm) (argsL := As) (rest := rest) (fun sig h => hn.trans (hlen sig h)) hstack hW (by rw [hb]; exact hdg)
    (fun vm₁ hW₁ => ⟨hf.1, hf.2, hPc (T.setVm vm₁) hT hW₁⟩) with ⟨v, vm₁, ⟨U', l2, c2, s2⟩, hW₁, X', ⟨g', mk, t, L, e1, e2, hq, h1, hL, h2, h3⟩, st⟩ | ⟨q, vm₁, ⟨U', l2, c2, s2⟩, hW₁, X', ⟨g', mk, t, L, E, ce, e1, e2, hq, hce, hcv, hcl, h1, hL, h2, h3⟩, st⟩
  · dsimp only [Pt.U, Pt.locs, Pt.cells, Pt.slots] at X' e1 e2 h1 h2 h3 st
    subst h1; subst h2; subst h3
    exact Or.inl ⟨v, (T.setVm vm₁).calling g' mk (Value.ref b :: As).toArray, t, U', L, hT, X', hL, e1, e2, hq, st⟩
  · dsimp only [Pt.U, Pt.locs, Pt.cells, Pt.slots] at X' e1 e2 h1 h2 h3 st hcl
    subst h1; subst h2; subst h3
    exact Or.inr ⟨q, (T.setVm vm₁).calling g' mk (Value.ref b :: As).toArray, t, U', L, E, ce, hT, X', hL, e1, e2, hq, hce, hcv, vx_cls hW₁ hcl, st⟩
theorem vx_runS (S : CallFix p m c cc nL s args Ts own) (hM : vx_Met l y ws rm Pc Qc XC mc ms free) (cw : CallB R s args own index y bytes maxL ret ws rm mc ms n ∧ (Cond.static y).before args s = true) (hp : PreS s H Pc As)
    (hg : g.method = m) (hn : As.length = n) (hsize : g.locals.size = nL) (hstack : g.stack = As.reverse ++ rest) (hW : 2 * g.monitorRoom + (rest.map fun v => v.category).sum ≤ 8) (hdg : decode cc g.pc = .ok (.invokestatic index, 3)) (hf : cells + mc ≤ R.cells ∧ slots + ms ≤ R.slots) :
    vx_Run p l e R s m args below meth c H locs cells slots mc ms g rest (Qc As.toArray) XC free := by
  have hK : vx_Back l R p e below s args y 3 8 (PreOf R mc ms Pc) (PostOf Qc mc ms free) (vx_Post XC mc ms free) := vx_callBack cw.1 hM hp.1
  obtain ⟨⟨-, -, -, -, -, -, hcode, hini, hy, hlen, hl⟩, hstt⟩ := cw
  obtain ⟨hx, hb, hml, ho, -⟩ := S
  intro T hT X
  rcases vx_callS X hx (bytes := bytes) (maxL := maxL) (ret := ret) ho hl hstt hini hcode hy hK hg (hsize.trans hml.symm) (argsL := As) (rest := rest) (fun sig h => hn.trans (hlen sig h)) hstack hW (by rw [hb]; exact hdg)
    (fun vm₁ hW₁ => ⟨hf.1, hf.2, hp.2 (T.setVm vm₁) hT hW₁⟩) with ⟨v, vm₁, ⟨U', l2, c2, s2⟩, hW₁, X', ⟨g', mk, t, L, e1, e2, hq, h1, hL, h2, h3⟩, st⟩ | ⟨q, vm₁, ⟨U', l2, c2, s2⟩, hW₁, X', ⟨g', mk, t, L, E, ce, e1, e2, hq, hce, hcv, hcl, h1, hL, h2, h3⟩, st⟩
  · dsimp only [Pt.U, Pt.locs, Pt.cells, Pt.slots] at X' e1 e2 h1 h2 h3 st
    subst h1; subst h2; subst h3
    exact Or.inl ⟨v, (T.setVm vm₁).calling g' mk As.toArray, t, U', L, hT, X', hL, e1, e2, hq, st⟩
  · dsimp only [Pt.U, Pt.locs, Pt.cells, Pt.slots] at X' e1 e2 h1 h2 h3 st hcl
    subst h1; subst h2; subst h3
    exact Or.inr ⟨q, (T.setVm vm₁).calling g' mk As.toArray, t, U', L, E, ce, hT, X', hL, e1, e2, hq, hce, hcv, vx_cls hW₁ hcl, st⟩
end Runs
section Rows
variable {p : Program} {l : Launch} {e : Env} {R : Room} {s : State} {m : MethodId} {args : Array Value} {below : List Frame} {meth : Method} {c : Code} {H : Heap} {locs : List Loc} {cells slots : Nat} {Q : State → Prop}
variable {mc ms : Nat} {free : Addr → Prop} {A0 A1 : Nat → Prop} {H0 : Heap} {a : Array Value} {pc : Nat} {ls : Array Slot} {st0 rest : List Value}
theorem vx_keep {st₀ t T' : State} {L : List Loc} (h0 : st₀.heap = H) (e1 : T'.heap = t.heap) (hS : va_S A0 H0 H locs) (hA : ∀ q, q < H.size → A1 q → A0 q) (hf : ∀ q, free q → A0 q) (hL : ∀ q ∈ L, free q.base) (hF : va_F A1 st₀ t) :
    H.size ≤ T'.heap.size ∧ (∀ q : Nat, q < H.size → ¬ A1 q → T'.heap[q]? = H[q]?) ∧ va_S A0 H0 T'.heap (locs ++ L) := by
  obtain ⟨hz, hk⟩ := hF
  rw [h0] at hz hk
  exact ⟨by rw [e1]; exact hz, fun q h1 h2 => by rw [e1]; exact hk q h1 h2,
    ⟨Nat.le_trans hS.1 (by rw [e1]; exact hz), fun q h1 h2 => by rw [e1, hk q (Nat.lt_of_lt_of_le h1 hS.1) (fun z => h2 (hA q (Nat.lt_of_lt_of_le h1 hS.1) z))]; exact hS.2.1 q h1 h2, fun q hq => by
      rcases List.mem_append.mp hq with h | h
      · exact hS.2.2 q h
      · exact hf _ (hL q h)⟩⟩
theorem vx_calli {S SX : Type} {post : Int32 → S → Prop} {px : SX → Prop} {B : S → State → Prop} {BX : String → SX → State → Prop} {AX : Nat → Prop} (hr : vx_Run p l e R s m args below meth c H locs cells slots mc ms (F0 m pc ls st0) rest (va_Qi post B A1 a) (vx_X px BX AX) free) (hS : va_S A0 H0 H locs) (hA : ∀ q, q < H.size → A1 q → A0 q) (hf : ∀ q, free q → A0 q) (hAX : ∀ q, q < H.size → AX q → A0 q)
    (kx : ∀ (E : String) (ce : Cell) (q9 : Addr) (u : SX) (t : State) (H1 : Heap) (locs1 : List Loc), t.heap = H1 → s.vm.Alike t.vm → px u → BX E u t → H.size ≤ H1.size → (∀ q : Nat, q < H.size → ¬ AX q → H1[q]? = H[q]?) → va_S A0 H0 H1 locs1 → H1[q9]? = some ce → ce.vm = .none → s.vm.findClass E = some ce.cls → vx_W p l e R s m args below meth c H1 locs1 (cells + mc) (slots + ms) Q (F0 m pc ls rest) q9)
    (kk : ∀ (r : Int32) (u : S) (t : State) (H1 : Heap) (locs1 : List Loc), t.heap = H1 → s.vm.Alike t.vm → post r u → B u t → H.size ≤ H1.size → (∀ q : Nat, q < H.size → ¬ A1 q → H1[q]? = H[q]?) → va_S A0 H0 H1 locs1 → W p l e R s m args below meth c H1 locs1 (cells + mc) (slots + ms) Q (F0 m (pc + 3) ls (.int r :: rest))) : W p l e R s m args below meth c H locs cells slots Q (F0 m pc ls st0) := by
  intro T hT X
  rcases hr T hT X with ⟨v, st₀, t, T', L, h0, X', hL, e1, e2, ⟨⟨r, u, hv, hp, hb⟩, hF⟩, st⟩ | ⟨q, st₀, t, T', L, E, ce, h0, X', hL, e1, e2, ⟨u, hp, hb, hF⟩, hce, hcv, hcl, st⟩
  · cases hv
    obtain ⟨k1, k2, k3⟩ := vx_keep h0 e1 hS hA hf hL hF
    obtain ⟨t2, a1, b1⟩ := kk r u t T'.heap (locs ++ L) e1.symm (by rw [← e2]; exact X'.warmed.alike) hp hb k1 k2 k3 T' rfl X'
    exact ⟨t2, st t2 a1, b1⟩
  · obtain ⟨k1, k2, k3⟩ := vx_keep h0 e1 hS hAX hf hL hF
    obtain ⟨t2, a1, b1⟩ := kx E ce q u t T'.heap (locs ++ L) e1.symm (by rw [← e2]; exact X'.warmed.alike) hp hb k1 k2 k3 (by rw [e1]; exact hce) hcv hcl T' rfl X'
    exact ⟨t2, st.trans a1, b1⟩
theorem vx_calll {S SX : Type} {post : Int64 → S → Prop} {px : SX → Prop} {B : S → State → Prop} {BX : String → SX → State → Prop} {AX : Nat → Prop} (hr : vx_Run p l e R s m args below meth c H locs cells slots mc ms (F0 m pc ls st0) rest (va_Ql post B A1 a) (vx_X px BX AX) free) (hS : va_S A0 H0 H locs) (hA : ∀ q, q < H.size → A1 q → A0 q) (hf : ∀ q, free q → A0 q) (hAX : ∀ q, q < H.size → AX q → A0 q)
    (kx : ∀ (E : String) (ce : Cell) (q9 : Addr) (u : SX) (t : State) (H1 : Heap) (locs1 : List Loc), t.heap = H1 → s.vm.Alike t.vm → px u → BX E u t → H.size ≤ H1.size → (∀ q : Nat, q < H.size → ¬ AX q → H1[q]? = H[q]?) → va_S A0 H0 H1 locs1 → H1[q9]? = some ce → ce.vm = .none → s.vm.findClass E = some ce.cls → vx_W p l e R s m args below meth c H1 locs1 (cells + mc) (slots + ms) Q (F0 m pc ls rest) q9)
    (kk : ∀ (r : Int64) (u : S) (t : State) (H1 : Heap) (locs1 : List Loc), t.heap = H1 → s.vm.Alike t.vm → post r u → B u t → H.size ≤ H1.size → (∀ q : Nat, q < H.size → ¬ A1 q → H1[q]? = H[q]?) → va_S A0 H0 H1 locs1 → W p l e R s m args below meth c H1 locs1 (cells + mc) (slots + ms) Q (F0 m (pc + 3) ls (.long r :: rest))) : W p l e R s m args below meth c H locs cells slots Q (F0 m pc ls st0) := by
  intro T hT X
  rcases hr T hT X with ⟨v, st₀, t, T', L, h0, X', hL, e1, e2, ⟨⟨r, u, hv, hp, hb⟩, hF⟩, st⟩ | ⟨q, st₀, t, T', L, E, ce, h0, X', hL, e1, e2, ⟨u, hp, hb, hF⟩, hce, hcv, hcl, st⟩
  · cases hv
    obtain ⟨k1, k2, k3⟩ := vx_keep h0 e1 hS hA hf hL hF
    obtain ⟨t2, a1, b1⟩ := kk r u t T'.heap (locs ++ L) e1.symm (by rw [← e2]; exact X'.warmed.alike) hp hb k1 k2 k3 T' rfl X'
    exact ⟨t2, st t2 a1, b1⟩
  · obtain ⟨k1, k2, k3⟩ := vx_keep h0 e1 hS hAX hf hL hF
    obtain ⟨t2, a1, b1⟩ := kx E ce q u t T'.heap (locs ++ L) e1.symm (by rw [← e2]; exact X'.warmed.alike) hp hb k1 k2 k3 (by rw [e1]; exact hce) hcv hcl T' rfl X'
    exact ⟨t2, st.trans a1, b1⟩
theorem vx_callf {S SX : Type} {post : UInt32 → S → Prop} {px : SX → Prop} {B : S → State → Prop} {BX : String → SX → State → Prop} {AX : Nat → Prop} (hr : vx_Run p l e R s m args below meth c H locs cells slots mc ms (F0 m pc ls st0) rest (va_Qf post B A1 a) (vx_X px BX AX) free) (hS : va_S A0 H0 H locs) (hA : ∀ q, q < H.size → A1 q → A0 q) (hf : ∀ q, free q → A0 q) (hAX : ∀ q, q < H.size → AX q → A0 q)
    (kx : ∀ (E : String) (ce : Cell) (q9 : Addr) (u : SX) (t : State) (H1 : Heap) (locs1 : List Loc), t.heap = H1 → s.vm.Alike t.vm → px u → BX E u t → H.size ≤ H1.size → (∀ q : Nat, q < H.size → ¬ AX q → H1[q]? = H[q]?) → va_S A0 H0 H1 locs1 → H1[q9]? = some ce → ce.vm = .none → s.vm.findClass E = some ce.cls → vx_W p l e R s m args below meth c H1 locs1 (cells + mc) (slots + ms) Q (F0 m pc ls rest) q9)
    (kk : ∀ (r : UInt32) (u : S) (t : State) (H1 : Heap) (locs1 : List Loc), t.heap = H1 → s.vm.Alike t.vm → post r u → B u t → H.size ≤ H1.size → (∀ q : Nat, q < H.size → ¬ A1 q → H1[q]? = H[q]?) → va_S A0 H0 H1 locs1 → W p l e R s m args below meth c H1 locs1 (cells + mc) (slots + ms) Q (F0 m (pc + 3) ls (.float r :: rest))) : W p l e R s m args below meth c H locs cells slots Q (F0 m pc ls st0) := by
  intro T hT X
  rcases hr T hT X with ⟨v, st₀, t, T', L, h0, X', hL, e1, e2, ⟨⟨r, u, hv, hp, hb⟩, hF⟩, st⟩ | ⟨q, st₀, t, T', L, E, ce, h0, X', hL, e1, e2, ⟨u, hp, hb, hF⟩, hce, hcv, hcl, st⟩
  · cases hv
    obtain ⟨k1, k2, k3⟩ := vx_keep h0 e1 hS hA hf hL hF
    obtain ⟨t2, a1, b1⟩ := kk r u t T'.heap (locs ++ L) e1.symm (by rw [← e2]; exact X'.warmed.alike) hp hb k1 k2 k3 T' rfl X'
    exact ⟨t2, st t2 a1, b1⟩
  · obtain ⟨k1, k2, k3⟩ := vx_keep h0 e1 hS hAX hf hL hF
    obtain ⟨t2, a1, b1⟩ := kx E ce q u t T'.heap (locs ++ L) e1.symm (by rw [← e2]; exact X'.warmed.alike) hp hb k1 k2 k3 (by rw [e1]; exact hce) hcv hcl T' rfl X'
    exact ⟨t2, st.trans a1, b1⟩
theorem vx_calld {S SX : Type} {post : UInt64 → S → Prop} {px : SX → Prop} {B : S → State → Prop} {BX : String → SX → State → Prop} {AX : Nat → Prop} (hr : vx_Run p l e R s m args below meth c H locs cells slots mc ms (F0 m pc ls st0) rest (va_Qd post B A1 a) (vx_X px BX AX) free) (hS : va_S A0 H0 H locs) (hA : ∀ q, q < H.size → A1 q → A0 q) (hf : ∀ q, free q → A0 q) (hAX : ∀ q, q < H.size → AX q → A0 q)
    (kx : ∀ (E : String) (ce : Cell) (q9 : Addr) (u : SX) (t : State) (H1 : Heap) (locs1 : List Loc), t.heap = H1 → s.vm.Alike t.vm → px u → BX E u t → H.size ≤ H1.size → (∀ q : Nat, q < H.size → ¬ AX q → H1[q]? = H[q]?) → va_S A0 H0 H1 locs1 → H1[q9]? = some ce → ce.vm = .none → s.vm.findClass E = some ce.cls → vx_W p l e R s m args below meth c H1 locs1 (cells + mc) (slots + ms) Q (F0 m pc ls rest) q9)
    (kk : ∀ (r : UInt64) (u : S) (t : State) (H1 : Heap) (locs1 : List Loc), t.heap = H1 → s.vm.Alike t.vm → post r u → B u t → H.size ≤ H1.size → (∀ q : Nat, q < H.size → ¬ A1 q → H1[q]? = H[q]?) → va_S A0 H0 H1 locs1 → W p l e R s m args below meth c H1 locs1 (cells + mc) (slots + ms) Q (F0 m (pc + 3) ls (.double r :: rest))) : W p l e R s m args below meth c H locs cells slots Q (F0 m pc ls st0) := by
  intro T hT X
  rcases hr T hT X with ⟨v, st₀, t, T', L, h0, X', hL, e1, e2, ⟨⟨r, u, hv, hp, hb⟩, hF⟩, st⟩ | ⟨q, st₀, t, T', L, E, ce, h0, X', hL, e1, e2, ⟨u, hp, hb, hF⟩, hce, hcv, hcl, st⟩
  · cases hv
    obtain ⟨k1, k2, k3⟩ := vx_keep h0 e1 hS hA hf hL hF
    obtain ⟨t2, a1, b1⟩ := kk r u t T'.heap (locs ++ L) e1.symm (by rw [← e2]; exact X'.warmed.alike) hp hb k1 k2 k3 T' rfl X'
    exact ⟨t2, st t2 a1, b1⟩
  · obtain ⟨k1, k2, k3⟩ := vx_keep h0 e1 hS hAX hf hL hF
    obtain ⟨t2, a1, b1⟩ := kx E ce q u t T'.heap (locs ++ L) e1.symm (by rw [← e2]; exact X'.warmed.alike) hp hb k1 k2 k3 (by rw [e1]; exact hce) hcv hcl T' rfl X'
    exact ⟨t2, st.trans a1, b1⟩
theorem vx_callv {S SX : Type} {post : S → Prop} {px : SX → Prop} {B : S → State → Prop} {BX : String → SX → State → Prop} {AX : Nat → Prop} (hr : vx_Run p l e R s m args below meth c H locs cells slots mc ms (F0 m pc ls st0) rest (va_Qv post B A1 a) (vx_X px BX AX) free) (hS : va_S A0 H0 H locs) (hA : ∀ q, q < H.size → A1 q → A0 q) (hf : ∀ q, free q → A0 q) (hAX : ∀ q, q < H.size → AX q → A0 q)
    (kx : ∀ (E : String) (ce : Cell) (q9 : Addr) (u : SX) (t : State) (H1 : Heap) (locs1 : List Loc), t.heap = H1 → s.vm.Alike t.vm → px u → BX E u t → H.size ≤ H1.size → (∀ q : Nat, q < H.size → ¬ AX q → H1[q]? = H[q]?) → va_S A0 H0 H1 locs1 → H1[q9]? = some ce → ce.vm = .none → s.vm.findClass E = some ce.cls → vx_W p l e R s m args below meth c H1 locs1 (cells + mc) (slots + ms) Q (F0 m pc ls rest) q9)
    (kk : ∀ (u : S) (t : State) (H1 : Heap) (locs1 : List Loc), t.heap = H1 → s.vm.Alike t.vm → post u → B u t → H.size ≤ H1.size → (∀ q : Nat, q < H.size → ¬ A1 q → H1[q]? = H[q]?) → va_S A0 H0 H1 locs1 → W p l e R s m args below meth c H1 locs1 (cells + mc) (slots + ms) Q (F0 m (pc + 3) ls (rest))) : W p l e R s m args below meth c H locs cells slots Q (F0 m pc ls st0) := by
  intro T hT X
  rcases hr T hT X with ⟨v, st₀, t, T', L, h0, X', hL, e1, e2, ⟨⟨u, hv, hp, hb⟩, hF⟩, st⟩ | ⟨q, st₀, t, T', L, E, ce, h0, X', hL, e1, e2, ⟨u, hp, hb, hF⟩, hce, hcv, hcl, st⟩
  · cases hv
    obtain ⟨k1, k2, k3⟩ := vx_keep h0 e1 hS hA hf hL hF
    obtain ⟨t2, a1, b1⟩ := kk u t T'.heap (locs ++ L) e1.symm (by rw [← e2]; exact X'.warmed.alike) hp hb k1 k2 k3 T' rfl X'
    exact ⟨t2, st t2 a1, b1⟩
  · obtain ⟨k1, k2, k3⟩ := vx_keep h0 e1 hS hAX hf hL hF
    obtain ⟨t2, a1, b1⟩ := kx E ce q u t T'.heap (locs ++ L) e1.symm (by rw [← e2]; exact X'.warmed.alike) hp hb k1 k2 k3 (by rw [e1]; exact hce) hcv hcl T' rfl X'
    exact ⟨t2, st.trans a1, b1⟩
/-- caught by the row x of this method's table; the rows ahead don't take it -/
theorem vx_catch {own name : String} {E : String} {ce : Cell} {q : Addr} (hown : s.vm.findClass own = some m.cls) (pre : List ExceptionTableEntry) (x : ExceptionTableEntry) (suf : List ExceptionTableEntry) (hsplit : c.exceptionTable.toList = pre ++ x :: suf)
    (hpass : ∀ z ∈ pre, covers z pc = false ∨ (z.catchType ≠ 0 ∧ ∃ nm : String, (Cond.classLink own z.catchType nm).before args s = true ∧ va_Nc E nm s)) (hx : covers x pc = true) (h0 : x.catchType ≠ 0)
    (hlink : (Cond.classLink own x.catchType name).before args s = true) (hcast : (Cond.castable E name).before args s = true) (hcell : H[q]? = some ce) (hv : ce.vm = .none) (hcl : s.vm.findClass E = some ce.cls)
    (kk : W p l e R s m args below meth c H locs cells slots Q (F0 m x.handlerPc ls [.ref q])) : vx_W p l e R s m args below meth c H locs cells slots Q (F0 m pc ls rest) q := by
  intro T hT X
  have hpl : e.platform.magicAccessors = ({} : Platform).magicAccessors := by rw [X.admits.platform]
  obtain ⟨c3, c4, hc3, hc4, hasg⟩ := Cond.castable_spec hcast
  cases Option.some.inj (hc3.symm.trans hcl)
  obtain ⟨c5, hc5, hcl5⟩ := Cond.classLink_spec hown hlink e.platform hpl
  cases Option.some.inj (hc4.symm.trans hc5)
  obtain ⟨vm', X', st⟩ := X.thenCaughtThrough q (g := F0 m pc ls rest) rfl (Steps.refl _) (by rw [hT]; exact hcell) (by rw [hv]; rfl) (by obtain ⟨k9, h9, -⟩ := Vm.findClass_spec hcl; exact ⟨k9, h9⟩) pre x suf hsplit
    (fun z hz => by
      rcases hpass z hz with h | ⟨hz0, nm, hl1, hn1⟩
      · exact Or.inl h
      · obtain ⟨c6, hc6, hcl6⟩ := Cond.classLink_spec hown hl1 e.platform hpl
        obtain ⟨a8, b8, h1, h2, h3⟩ := hn1
        cases Option.some.inj (h1.symm.trans hcl)
        cases Option.some.inj (h2.symm.trans hc6)
        exact Or.inr ⟨hz0, _, hcl6, h3⟩) hx (Or.inr ⟨h0, c4, hcl5, hasg⟩)
  obtain ⟨t, a1, b1⟩ := kk (T.setVm vm') hT X'
  exact ⟨t, st.trans a1, b1⟩
end Rows
section Ends
variable {p : Program} {l : Launch} {e : Env} {R : Room} {s : State} {m : MethodId} {args : Array Value} {below : List Frame} {meth : Method} {c : Code} {H : Heap} {locs : List Loc} {cells slots : Nat} {Q : State → Prop}
variable {mc ms : Nat} {free : Addr → Prop} {A0 A1 : Nat → Prop} {H0 : Heap} {a : Array Value} {ls : Array Slot} {st0 rest : List Value}
variable {Qc : Array Value → State → Outcome → State → Prop} {XC : String → State → State → Prop}
/-- what a body that may throw owes at its end -/
def vx_MQ (below : List Frame) (Qc : Array Value → State → Outcome → State → Prop) (XC : String → State → State → Prop) (a : Array Value) (s : State) (mc ms : Nat) (free : Addr → Prop) : State → Prop := fun t =>
  ∃ o, t.status = .running ∧ Ended t below o ∧ vx_Q Qc XC mc ms free a s o t
theorem vx_ret {g : JFrame} {mc ms : Nat} (k : W p l e R s m args below meth c H locs cells slots (MQ below Qc args s mc ms free) g) : W p l e R s m args below meth c H locs cells slots (vx_MQ below Qc XC args s mc ms free) g := by
  intro T hT X
  obtain ⟨t, a1, o, b1, b2, b3, b4⟩ := k T hT X
  exact ⟨t, a1, o, b1, b2, Or.inl ⟨b3, b4⟩⟩
/-- not caught here: it goes on to the caller -/
theorem vx_widen {g : JFrame} {q : Addr} {k n : Nat} (h1 : cells ≤ k) (h2 : slots ≤ n) (kk : vx_W p l e R s m args below meth c H locs k n Q g q) : vx_W p l e R s m args below meth c H locs cells slots Q g q := fun T hT X => kk T hT (stand_widen X h1 h2)
theorem vx_out {pc : Nat} {E : String} {ce : Cell} {q : Addr} {mc ms : Nat} (hout : ∀ x ∈ c.exceptionTable.toList, covers x pc = false) (hlocks : meth.locks = false) (hcell : H[q]? = some ce) (hv : ce.vm = .none) (hcl : s.vm.findClass E = some ce.cls)
    (hx : ∀ t : State, t.heap = H → s.vm.Alike t.vm → XC E s t) (hf : ∀ z ∈ locs, free z.base) (hc : cells ≤ mc) (hs : slots ≤ ms) :
    vx_W p l e R s m args below meth c H locs cells slots (vx_MQ below Qc XC args s mc ms free) (F0 m pc ls rest) q := by
  intro T hT X
  obtain ⟨st1, hrun, hend, hW, hsm⟩ := X.leaveThrown q (g := F0 m pc ls rest) rfl rfl rfl hout hlocks
  have hcell9 : (T.setFrames (.throwing q :: below)).heap[q]? = some ce := by
    show T.heap[q]? = some ce
    rw [hT]; exact hcell
  exact ⟨_, st1, .threw q, hrun, hend, Or.inr ⟨q, rfl, E, ce, locs, hx _ hT hW.alike, hcell9, hv, hcl, hW, hsm.mono hc hs, hf⟩⟩
theorem vx_frame {U : State} {k n : Nat} (h : s.sameButNew ({ U with vm := s.vm } : State) locs k n) : s.heap.size ≤ U.heap.size ∧ ∀ q : Nat, q < s.heap.size → (∀ z ∈ locs, z.base ≠ q) → U.heap[q]? = s.heap[q]? := by
  obtain ⟨-, h2, -, -, -, h6⟩ := h
  refine ⟨h2, fun q hq hz => ?_⟩
  obtain ⟨c9, e1, e2, e3, e4⟩ := h6 q _ (Array.getElem?_eq_getElem hq)
  have hs : c9.slots = (s.heap[q]).slots := Array.ext_getElem? fun i => e4 i fun hm => hz _ hm rfl
  have h9 : c9 = s.heap[q] := by
    rw [hs] at e2
    exact e2
  have e5 : U.heap[q]? = some c9 := e1
  rw [e5, h9, Array.getElem?_eq_getElem hq]
/-- the words of a throw but the four that speak of the heap -/
def vx_no (w : Cond) : Bool := decide (w ≠ .isRef (.static Bundle.tN "UNASSIGNED_STACK" Bundle.steD)) && decide (w ≠ .isRef (.static Bundle.tN "SUPPRESSED_SENTINEL" Bundle.listD)) && decide (w ≠ .laysStatic Bundle.tN "UNASSIGNED_STACK" Bundle.steD) && decide (w ≠ .laysStatic Bundle.tN "SUPPRESSED_SENTINEL" Bundle.listD)
def vx_at0 (own : String) (ic : Nat) (X : String) (names : List String) : List Cond := (Bundle.ownAtoms0 own ic X names).filter vx_no
def vx_atS (own : String) (ic : Nat) (X : String) (names : List String) : List Cond := (Bundle.ownAtoms own ic X names).filter vx_no
/-- a word that the tables alone decide, or a good one -/
def vx_ot (w : Cond) : Bool := w.onTables || goodWord w
theorem vx_ot_at {args a' : Array Value} {s U : State} {w : Cond} (hW : s.WarmedH U.vm) (hvm : s.vm = U.vm) (hg : vx_ot w = true) (h : w.before args s = true) : w.before a' U = true := by
  simp only [vx_ot, Bool.or_eq_true] at hg
  rcases hg with hg | hg
  · exact va_tabs hg hvm h
  · exact word_at hW (good_of_word hg) h
/-- a list's words: the good ones out of the method's own list, the others by premises of their own -/
theorem vx_hat {args : Array Value} {s : State} {L B : List Cond} (h1 : ∀ w ∈ L.filter goodWord, w.before args s = true) (h2 : ∀ w ∈ L.filter (fun w => !goodWord w), w ∈ B) (h3 : ∀ w ∈ B, w.before args s = true) : ∀ w ∈ L, w.before args s = true := by
  intro w hw
  by_cases g : goodWord w = true
  · exact h1 w (List.mem_filter.mpr ⟨hw, g⟩)
  · refine h3 w (h2 w (List.mem_filter.mpr ⟨hw, ?_⟩))
    show (!goodWord w) = true
    cases hgw : goodWord w
    · rfl
    · exact absurd hgw g
theorem vx_c {args : Array Value} {s : State} {w : Cond} {B : List Cond} (h : w.before args s = true) (t : ∀ w ∈ B, w.before args s = true) : ∀ w' ∈ w :: B, w'.before args s = true := fun w' h' => (List.mem_cons.mp h').elim (fun e => by rw [e]; exact h) (t w')
theorem vx_n {args : Array Value} {s : State} : ∀ w ∈ ([] : List Cond), w.before args s = true := fun _ h => nomatch h
theorem vx_own {args : Array Value} {s : State} {L : List Cond} (h1 : ∀ w ∈ L.filter vx_no, w.before args s = true)
    (hU : (Cond.isRef (.static Bundle.tN "UNASSIGNED_STACK" Bundle.steD)).before args s = true) (hN : (Cond.isRef (.static Bundle.tN "SUPPRESSED_SENTINEL" Bundle.listD)).before args s = true)
    (lU : (Cond.laysStatic Bundle.tN "UNASSIGNED_STACK" Bundle.steD).before args s = true) (lN : (Cond.laysStatic Bundle.tN "SUPPRESSED_SENTINEL" Bundle.listD).before args s = true) : ∀ w ∈ L, w.before args s = true := by
  intro w hw
  by_cases e1 : w = .isRef (.static Bundle.tN "UNASSIGNED_STACK" Bundle.steD)
  · rw [e1]; exact hU
  · by_cases e2 : w = .isRef (.static Bundle.tN "SUPPRESSED_SENTINEL" Bundle.listD)
    · rw [e2]; exact hN
    · by_cases e3 : w = .laysStatic Bundle.tN "UNASSIGNED_STACK" Bundle.steD
      · rw [e3]; exact lU
      · by_cases e4 : w = .laysStatic Bundle.tN "SUPPRESSED_SENTINEL" Bundle.listD
        · rw [e4]; exact lN
        · exact h1 w (List.mem_filter.mpr ⟨hw, by unfold vx_no; rw [decide_eq_true e1, decide_eq_true e2, decide_eq_true e3, decide_eq_true e4]; rfl⟩)
/-- where a static field lies, its class's statics cell in H -/
def vx_L (C n d : String) (A : Nat → Prop) (U : State) (H : Heap) : Prop := ∃ (c : ClassId) (k : Class) (i : Nat) (f : Field) (a : Nat) (cell : Cell), U.vm.findClass C = some c ∧ U.fieldFound? C n d = some (c, k, i, f) ∧ f.isStatic = true ∧ k.statics = some a ∧ H[a]? = some cell ∧ cell.vm.isStatics = true ∧ cell.cls = c ∧ f.slot < cell.slots.size ∧ k.staticTypes[f.slot]? = some f.type ∧ ¬ A a
theorem vx_L.moved {C n d : String} {A : Nat → Prop} {u U : State} {H : Heap} (hvm : u.vm.Alike U.vm) (h : vx_L C n d A u H) : vx_L C n d A U H := by
  obtain ⟨c, k, i, f, a, cell, h1, h2, h3, h4, h5, h6, h7, h8, h9, h10⟩ := h
  obtain ⟨k', hi', he⟩ := State.fieldFound?_setVm hvm h2
  exact ⟨c, k', i, f, a, cell, by rw [hvm.findClass]; exact h1, hi', h3, by rw [he]; exact h4, h5, h6, h7, h8, by rw [he]; exact h9, h10⟩
theorem vx_L.kept {C n d : String} {A : Nat → Prop} {U : State} {H H1 : Heap} (h : vx_L C n d A U H) (hq : ∀ a : Nat, a < H.size → ¬ A a → H1[a]? = H[a]?) : vx_L C n d A U H1 := by
  obtain ⟨c, k, i, f, a, cell, h1, h2, h3, h4, h5, h6, h7, h8, h9, h10⟩ := h
  exact ⟨c, k, i, f, a, cell, h1, h2, h3, h4, by rw [hq a (Array.getElem?_eq_some_iff.mp h5).1 h10]; exact h5, h6, h7, h8, h9, h10⟩
theorem vx_L.narrow {C n d : String} {A B : Nat → Prop} {U : State} {H : Heap} (h : vx_L C n d A U H) (hAB : ∀ q, B q → A q) : vx_L C n d B U H := by
  obtain ⟨c, k, i, f, a, cell, h1, h2, h3, h4, h5, h6, h7, h8, h9, h10⟩ := h
  exact ⟨c, k, i, f, a, cell, h1, h2, h3, h4, h5, h6, h7, h8, h9, fun z => h10 (hAB _ z)⟩
theorem vx_L.word {C n d : String} {A : Nat → Prop} {s : State} {args : Array Value} (h : vx_L C n d A s s.heap) : (Cond.laysStatic C n d).before args s = true := by
  obtain ⟨c, k, i, f, a, cell, h1, h2, h3, h4, h5, h6, h7, h8, h9, -⟩ := h
  show (Cond.laysStatic C n d).holds args s none s [] = true
  exact Cond.laysStatic_of h1 h2 h3 h4 h5 h6 h7 h8 h9
/-- .. and what it holds: null or some reference -/
def vx_Zq (C n d : String) (A : Nat → Prop) (U : State) (H : Heap) : Prop := va_Zq C n d A U H ∧ vx_L C n d A U H
theorem vx_Zq.moved {C n d : String} {A : Nat → Prop} {u U : State} {H : Heap} (hvm : u.vm.Alike U.vm) (h : vx_Zq C n d A u H) : vx_Zq C n d A U H := ⟨va_Zq.moved hvm h.1, vx_L.moved hvm h.2⟩
theorem vx_Zq.kept {C n d : String} {A : Nat → Prop} {U : State} {H H1 : Heap} (h : vx_Zq C n d A U H) (hq : ∀ a : Nat, a < H.size → ¬ A a → H1[a]? = H[a]?) : vx_Zq C n d A U H1 := ⟨va_Zq.kept h.1 hq, vx_L.kept h.2 hq⟩
theorem vx_Zq.narrow {C n d : String} {A B : Nat → Prop} {U : State} {H : Heap} (h : vx_Zq C n d A U H) (hAB : ∀ q, B q → A q) : vx_Zq C n d B U H := ⟨va_Zq.narrow h.1 hAB, vx_L.narrow h.2 hAB⟩
theorem vx_Zqof {args : Array Value} {s : State} {C n d : String} {A : Nat → Prop} (hl : (Cond.laysStatic C n d).before args s = true) (hini : (Cond.initialized C).before args s = true) (h : (Cond.isRef (.static C n d)).before args s = true) (hA : ∀ a : Nat, a < s.heap.size → ¬ A a) : vx_Zq C n d A s s.heap := by
  refine ⟨va_Zqof hl hini h hA, ?_⟩
  obtain ⟨c, k, i, f, a, cell, h1, h2, h3, h4, h5, h6, h7, h8, h9⟩ := Cond.laysStatic_spec hl
  exact ⟨c, k, i, f, a, cell, h1, h2, h3, h4, h5, h6, h7, h8, h9, hA a (Array.getElem?_eq_some_iff.mp h5).1⟩
theorem vx_isRef {C n d : String} {v : Value} {A : Nat → Prop} {s : State} {args : Array Value} (h : va_Z C n d v A s s.heap) (hv : v.isRef = true) : (Cond.isRef (.static C n d)).before args s = true := by
  obtain ⟨cf, kf, fi, f, a, cell, h1, h2, h3, h4, h5, h6, h7, -⟩ := h
  have he : (Term.static C n d).eval args s none [] s = some v := by
    simp [Term.eval, State.fieldNamed?, h1, h2, h4, h5, h6, h7]
  simp only [Cond.before, Cond.holds, Cond.value, he]
  cases v <;> simp_all [Value.isRef]
theorem vx_isRefq {C n d : String} {A : Nat → Prop} {s : State} {args : Array Value} (h : va_Zq C n d A s s.heap) : (Cond.isRef (.static C n d)).before args s = true := by
  rcases h with h | ⟨t, h⟩
  · exact vx_isRef h rfl
  · exact vx_isRef h rfl
/-- the same frame, seen from here: as if the method were called anew in this heap -/
theorem vx_rebase {T : State} (X : Stand p l e R s m args below meth c T locs cells slots) {R' : Room} (hf : R'.frames ≤ R.frames) (hl : R'.locals ≤ R.locals) (hc : cells + R'.cells ≤ R.cells) (hs : slots + R'.slots ≤ R.slots) :
    Stand p l e R' ((T.setVm s.vm).setFrames (.invoking m args :: below)) m args below meth c T [] 0 0 := by
  have htop : (T.setVm s.vm).topJava?.isSome := X.here.top
  have hF : ((T.setVm s.vm).setFrames (.invoking m args :: below)).frames = .invoking m args :: below := State.frames_setFrames _ (State.cur_lt_of_top htop)
  obtain ⟨g₀, hg0⟩ := Option.isSome_iff_exists.mp htop
  obtain ⟨r, hr⟩ := State.topJava?_eq_some.mp hg0
  have hl9 : e.platform.stackLimits (T.setVm s.vm).me = e.platform.stackLimits s.me := X.limits
  have hb9 : (T.setVm s.vm).me.stackBytes = s.me.stackBytes := X.bytes
  refine ⟨X.admits, X.cas, X.clock, hF, ?_, X.hears, X.method, X.code, X.here, X.tail, X.warmed, ?_, ?_, ?_⟩
  · have h := X.room
    have hU : ((T.setVm s.vm).setFrames (.invoking m args :: below)).localsInUse = s.localsInUse := by
      rw [State.localsInUse_invoking hF (meth := meth) (c := c) X.method X.code, State.localsInUse_invoking X.frames X.method X.code]
    simp only [State.hasRoom, Bool.and_eq_true, decide_eq_true_eq] at h ⊢
    obtain ⟨⟨⟨⟨h1, h2, h3, h4, h5, h6⟩, h7⟩, h8⟩, h9⟩ := h
    rw [X.frames, List.length_cons] at h2 h3
    have q1 := X.heapSize
    have q2 := X.used
    simp only [hF, hU, List.length_cons, State.stackLimits_setFrames, State.stackBytes_setFrames, hl9, hb9]
    refine ⟨⟨⟨⟨by omega, by omega, by omega, by omega, by omega, h6⟩, ?_⟩, ?_⟩, X.book⟩
    · show T.heap.size + R'.cells ≤ e.platform.maxCells
      omega
    · show T.slotsUsed + R'.slots ≤ e.platform.maxSlots
      omega
  · rw [State.stackLimits_setFrames]; rfl
  · rw [State.stackBytes_setFrames]; rfl
  · refine ⟨?_, Nat.le_refl _, Nat.le_refl _, ?_, ?_, fun a c9 h9 => ⟨c9, h9, rfl, rfl, fun _ _ => rfl⟩⟩
    · obtain ⟨t, ht, -⟩ := State.frames_cons hr
      show T.setVm s.vm = { ((T.setVm s.vm).setFrames (.invoking m args :: below)).setFrames (T.setVm s.vm).frames with heap := T.heap, slotsUsed := T.slotsUsed }
      rw [State.setFrames_setFrames, State.setFrames_self ht]
      rfl
    · show T.slotsUsed = T.slotsUsed + ((T.heap.toList.drop T.heap.size).map (·.slots.size)).sum
      rw [List.drop_eq_nil_of_le (Nat.le_of_eq Array.length_toList)]
      rfl
    · show ((T.heap.toList.drop T.heap.size).map (·.slots.size)).sum ≤ 0
      rw [List.drop_eq_nil_of_le (Nat.le_of_eq Array.length_toList)]
      exact Nat.le_refl _
/-- 'throw new E()': new; dup; invokespecial; athrow -/
theorem vx_throw0 {cc : ByteArray} {pc : Nat} (hexec : p.tables.exec = Jvm.exec) (hb : c.code = cc) (hl : l.stackTraces = false) {own cls : String} {names : List String} {ik ic mc ms : Nat} {A : Nat → Prop}
    (hown : s.vm.findClass own = some m.cls) (hcls : Bundle.fit cls = true) (hnames : ∀ n ∈ names, Bundle.fit n = true)
    (hk : (Cond.classLink own ik cls).before args s = true) (hini : (Cond.initialized cls).before args s = true) (hat : ∀ w ∈ vx_at0 own ic cls names, w.before args s = true)
    (hgood : ∀ w ∈ Cond.classLink own ik cls :: Cond.initialized cls :: vx_at0 own ic cls names, vx_ot w = true)
    (hU : vx_Zq Bundle.tN "UNASSIGNED_STACK" Bundle.steD A s s.heap) (hN : vx_Zq Bundle.tN "SUPPRESSED_SENTINEL" Bundle.listD A s s.heap) (hS : va_S A s.heap H locs) (hsize : ls.size = c.maxLocals)
    (d0 : decode cc pc = .ok (.new ik, 3)) (d3 : decode cc (pc + 3) = .ok (.dup, 1)) (d4 : decode cc (pc + 4) = .ok (.invokespecial ic, 3)) (d7 : decode cc (pc + 7) = .ok (.athrow, 1))
    (hout : ∀ x ∈ c.exceptionTable.toList, covers x (pc + 7) = false)
    (hRframes : names.length + 3 < R.frames) (hRlocals : (rest.map fun v => v.category).sum + (13 * (names.length + 1) + 42) ≤ R.locals) (hRcells : cells + 1 ≤ R.cells) (hRslots : slots + 6 ≤ R.slots) (hlocks : meth.locks = false)
    (hx : ∀ t : State, s.vm.Alike t.vm → H.size ≤ t.heap.size → (∀ q : Nat, q < H.size → t.heap[q]? = H[q]?) → XC cls s t)
    (hf : ∀ z ∈ locs, free z.base) (hc : cells + 1 ≤ mc) (hs : slots + 6 ≤ ms) :
    W p l e R s m args below meth c H locs cells slots (vx_MQ below Qc XC args s mc ms free) (F0 m pc ls rest) := by
  intro T hT X
  have htr : e.platform.stackTraces = false := (show e.platform.stackTraces = l.stackTraces by rw [X.admits.platform]).trans hl
  have Y := vx_rebase X (R' := { frames := R.frames, locals := R.locals, cells := 1, slots := 6 }) (Nat.le_refl _) (Nat.le_refl _) hRcells hRslots
  obtain ⟨s', hA⟩ : ∃ z, z = (T.setVm s.vm).setFrames (.invoking m args :: below) := ⟨_, rfl⟩
  rw [← hA] at Y
  have hvm : s'.vm = s.vm := by rw [hA]; rfl
  have hhp : s'.heap = H := by rw [hA]; exact hT
  have hW0 : s.WarmedH s'.vm := by rw [hvm]; exact State.WarmedH.refl s
  have hat' : ∀ w ∈ vx_at0 own ic cls names, w.before args s' = true := fun w hw => vx_ot_at hW0 hvm.symm (hgood w (List.mem_cons_of_mem _ (List.mem_cons_of_mem _ hw))) (hat w hw)
  have hk' : (Cond.classLink own ik cls).before args s' = true := vx_ot_at hW0 hvm.symm (hgood _ List.mem_cons_self) hk
  have hini' : (Cond.initialized cls).before args s' = true := vx_ot_at hW0 hvm.symm (hgood _ (List.mem_cons_of_mem _ List.mem_cons_self)) hini
  have hU' : vx_Zq Bundle.tN "UNASSIGNED_STACK" Bundle.steD A s' s'.heap := by rw [hhp]; exact vx_Zq.moved hW0.alike (hU.kept hS.2.1)
  have hN' : vx_Zq Bundle.tN "SUPPRESSED_SENTINEL" Bundle.listD A s' s'.heap := by rw [hhp]; exact vx_Zq.moved hW0.alike (hN.kept hS.2.1)
  have h : ∀ w ∈ Bundle.ownAtoms0 own ic cls names, w.before args s' = true := vx_own hat' (vx_isRefq hU'.1) (vx_isRefq hN'.1) hU'.2.word hN'.2.word
  have hown' : s'.vm.findClass own = some m.cls := by rw [hvm]; exact hown
  have hins : (Cond.instantiable cls 6).before args s' = true := h _ (by simp [Bundle.ownAtoms0])
  obtain ⟨vm₁, cX, kX, hfX, hkX, -, -, X₁, st1⟩ := Y.newCold hexec (own := own) (C := cls) (index := ik) (n := 6) hown' hk' hins hini'
    (g := F0 m pc ls rest) rfl (by rw [hb]; exact d0) (Nat.le_refl _) (Nat.le_refl _)
  generalize hT1 : (T.setVm vm₁).pushCell { cls := cX, slots := kX.instanceTypes.map defaultValue, vm := .none } = T1 at X₁ st1
  have hcat : (Value.ref T.heap.size).category = 1 := rfl
  have hcellA : T1.heap[T.heap.size]? = some (freshCell cX kX) := by rw [← hT1]; exact State.heap_pushCell_size _ _
  have d3' : decode c.code (pc + 3) = .ok (.dup, 1) := by rw [hb]; exact d3
  obtain ⟨U, hsteps, hrun, hend, hW, hsame, ce, hce, hO⟩ := X₁.ctorThrow0 hexec htr (own := own) (cls := cls) (names := names) (ic := ic) hown' hcls hnames h (fun x hx => nomatch hx) hfX hkX hcellA (by rw [hhp, hT]; exact Nat.le_refl _)
    (g := { method := m, pc := pc + 4, locals := ls, stack := .ref T.heap.size :: .ref T.heap.size :: rest, locked := none }) rfl hsize rfl rfl (rest := rest) rfl
    (by rw [hb]; exact d4) (by rw [hb]; exact d7) hout hRframes (by simp only [List.map_cons, List.sum_cons, hcat]; omega) hlocks
  obtain ⟨f1, f2⟩ := vx_frame hsame
  rw [hhp] at f1 f2
  have hWs : s.WarmedH U.vm := State.WarmedH.trans hW0 hW
  have hcl : s.vm.findClass cls = some ce.cls := by
    have h9 := hO.cls
    rw [hvm] at h9
    exact h9
  have hall : s.sameButNew ({ U with vm := s.vm } : State) locs mc ms := by
    subst hA
    obtain ⟨e1, e2⟩ := hsame
    rw [State.setFrames_setFrames] at e1
    have h2 : (T.setVm s.vm).sameButNew ({ U with vm := s.vm } : State) [] (0 + 1) (0 + 6) := ⟨e1, e2⟩
    have h3 := X.same.trans h2
    rw [List.append_nil] at h3
    exact h3.mono hc hs
  refine ⟨U, ?_, .threw T.heap.size, hrun, hend, Or.inr ⟨T.heap.size, rfl, cls, ce, locs, hx U hWs.alike f1 (fun q hq => f2 q hq (fun z hz => nomatch hz)), hce, hO.vm, hcl, hWs, hall, hf⟩⟩
  refine st1 _ ?_
  show Steps p.tables e below (T1.setTop { method := m, pc := pc + 3, locals := ls, stack := .ref T.heap.size :: rest, locked := none }) _
  jvm_step X₁.here [X₁.here.top, hexec, d3', Value.category]
  exact hsteps
/-- 'throw new E("text")': new; dup; ldc; invokespecial; athrow -/
theorem vx_throwS {cc : ByteArray} {pc : Nat} (hexec : p.tables.exec = Jvm.exec) (hb : c.code = cc) (hl : l.stackTraces = false) {own cls text : String} {names : List String} {ik is ic mc ms sa : Nat} {A : Nat → Prop}
    (hown : s.vm.findClass own = some m.cls) (hcls : Bundle.fit cls = true) (hnames : ∀ n ∈ names, Bundle.fit n = true)
    (hk : (Cond.classLink own ik cls).before args s = true) (hini : (Cond.initialized cls).before args s = true) (hstr : vk_R own is text sa s) (hat : ∀ w ∈ vx_atS own ic cls names, w.before args s = true)
    (hgood : ∀ w ∈ Cond.classLink own ik cls :: Cond.initialized cls :: vx_atS own ic cls names, vx_ot w = true)
    (hU : vx_Zq Bundle.tN "UNASSIGNED_STACK" Bundle.steD A s s.heap) (hN : vx_Zq Bundle.tN "SUPPRESSED_SENTINEL" Bundle.listD A s s.heap) (hS : va_S A s.heap H locs) (hsize : ls.size = c.maxLocals)
    (d0 : decode cc pc = .ok (.new ik, 3)) (d3 : decode cc (pc + 3) = .ok (.dup, 1)) (d4 : decode cc (pc + 4) = .ok (.ldc is, 2)) (d6 : decode cc (pc + 6) = .ok (.invokespecial ic, 3)) (d9 : decode cc (pc + 9) = .ok (.athrow, 1))
    (hout : ∀ x ∈ c.exceptionTable.toList, covers x (pc + 9) = false)
    (hRframes : names.length + 3 < R.frames) (hRlocals : (rest.map fun v => v.category).sum + (13 * (names.length + 1) + 43) ≤ R.locals) (hRcells : cells + 1 ≤ R.cells) (hRslots : slots + 6 ≤ R.slots) (hlocks : meth.locks = false)
    (hx : ∀ t : State, s.vm.Alike t.vm → H.size ≤ t.heap.size → (∀ q : Nat, q < H.size → t.heap[q]? = H[q]?) → XC cls s t)
    (hf : ∀ z ∈ locs, free z.base) (hc : cells + 1 ≤ mc) (hs : slots + 6 ≤ ms) :
    W p l e R s m args below meth c H locs cells slots (vx_MQ below Qc XC args s mc ms free) (F0 m pc ls rest) := by
  intro T hT X
  have htr : e.platform.stackTraces = false := (show e.platform.stackTraces = l.stackTraces by rw [X.admits.platform]).trans hl
  have Y := vx_rebase X (R' := { frames := R.frames, locals := R.locals, cells := 1, slots := 6 }) (Nat.le_refl _) (Nat.le_refl _) hRcells hRslots
  obtain ⟨s', hA⟩ : ∃ z, z = (T.setVm s.vm).setFrames (.invoking m args :: below) := ⟨_, rfl⟩
  rw [← hA] at Y
  have hvm : s'.vm = s.vm := by rw [hA]; rfl
  have hhp : s'.heap = H := by rw [hA]; exact hT
  have hW0 : s.WarmedH s'.vm := by rw [hvm]; exact State.WarmedH.refl s
  have hat' : ∀ w ∈ vx_atS own ic cls names, w.before args s' = true := fun w hw => vx_ot_at hW0 hvm.symm (hgood w (List.mem_cons_of_mem _ (List.mem_cons_of_mem _ hw))) (hat w hw)
  have hk' : (Cond.classLink own ik cls).before args s' = true := vx_ot_at hW0 hvm.symm (hgood _ List.mem_cons_self) hk
  have hini' : (Cond.initialized cls).before args s' = true := vx_ot_at hW0 hvm.symm (hgood _ (List.mem_cons_of_mem _ List.mem_cons_self)) hini
  have hU' : vx_Zq Bundle.tN "UNASSIGNED_STACK" Bundle.steD A s' s'.heap := by rw [hhp]; exact vx_Zq.moved hW0.alike (hU.kept hS.2.1)
  have hN' : vx_Zq Bundle.tN "SUPPRESSED_SENTINEL" Bundle.listD A s' s'.heap := by rw [hhp]; exact vx_Zq.moved hW0.alike (hN.kept hS.2.1)
  have h : ∀ w ∈ Bundle.ownAtoms own ic cls names, w.before args s' = true := vx_own hat' (vx_isRefq hU'.1) (vx_isRefq hN'.1) hU'.2.word hN'.2.word
  have hown' : s'.vm.findClass own = some m.cls := by rw [hvm]; exact hown
  have hins : (Cond.instantiable cls 6).before args s' = true := h _ (by simp [Bundle.ownAtoms])
  obtain ⟨vm₁, cX, kX, hfX, hkX, -, -, X₁, st1⟩ := Y.newCold hexec (own := own) (C := cls) (index := ik) (n := 6) hown' hk' hins hini'
    (g := F0 m pc ls rest) rfl (by rw [hb]; exact d0) (Nat.le_refl _) (Nat.le_refl _)
  generalize hT1 : (T.setVm vm₁).pushCell { cls := cX, slots := kX.instanceTypes.map defaultValue, vm := .none } = T1 at X₁ st1
  have hcat : (Value.ref T.heap.size).category = 1 := rfl
  have hcellA : T1.heap[T.heap.size]? = some (freshCell cX kX) := by rw [← hT1]; exact State.heap_pushCell_size _ _
  have d3' : decode c.code (pc + 3) = .ok (.dup, 1) := by rw [hb]; exact d3
  have d4' : decode c.code (pc + 4) = .ok (.ldc is, 2) := by rw [hb]; exact d4
  have hstr' : vk_R own is text sa s' := vk_R.warm hW0 hstr
  obtain ⟨U, hsteps, hrun, hend, hW, hsame, ce, hce, hO⟩ := X₁.ctorThrowS hexec htr (own := own) (cls := cls) (names := names) (ic := ic) hown' hcls hnames h (fun x hx => nomatch hx) hfX hkX hcellA (by rw [hhp, hT]; exact Nat.le_refl _) (msg := .ref sa) rfl
    (g := { method := m, pc := pc + 6, locals := ls, stack := .ref sa :: .ref T.heap.size :: .ref T.heap.size :: rest, locked := none }) rfl hsize rfl rfl (rest := rest) rfl
    (by rw [hb]; exact d6) (by rw [hb]; exact d9) hout hRframes (by simp only [List.map_cons, List.sum_cons, hcat]; omega) hlocks
  obtain ⟨f1, f2⟩ := vx_frame hsame
  rw [hhp] at f1 f2
  have hWs : s.WarmedH U.vm := State.WarmedH.trans hW0 hW
  have hcl : s.vm.findClass cls = some ce.cls := by
    have h9 := hO.cls
    rw [hvm] at h9
    exact h9
  have hall : s.sameButNew ({ U with vm := s.vm } : State) locs mc ms := by
    subst hA
    obtain ⟨e1, e2⟩ := hsame
    rw [State.setFrames_setFrames] at e1
    have h2 : (T.setVm s.vm).sameButNew ({ U with vm := s.vm } : State) [] (0 + 1) (0 + 6) := ⟨e1, e2⟩
    have h3 := X.same.trans h2
    rw [List.append_nil] at h3
    exact h3.mono hc hs
  refine ⟨U, ?_, .threw T.heap.size, hrun, hend, Or.inr ⟨T.heap.size, rfl, cls, ce, locs, hx U hWs.alike f1 (fun q hq => f2 q hq (fun z hz => nomatch hz)), hce, hO.vm, hcl, hWs, hall, hf⟩⟩
  refine st1 _ ?_
  show Steps p.tables e below (T1.setTop { method := m, pc := pc + 3, locals := ls, stack := .ref T.heap.size :: rest, locked := none }) _
  jvm_step X₁.here [X₁.here.top, hexec, d3', Value.category]
  exact X₁.ldcString hexec (own := own) (text := text) (index := is) (a := sa) hown' hstr'.1 hstr'.2
    (g := { method := m, pc := pc + 4, locals := ls, stack := .ref T.heap.size :: .ref T.heap.size :: rest, locked := none }) rfl d4' _ hsteps
/-- 'throw new E("text")', the text by a wide index -/
theorem vx_throwSW {cc : ByteArray} {pc : Nat} (hexec : p.tables.exec = Jvm.exec) (hb : c.code = cc) (hl : l.stackTraces = false) {own cls text : String} {names : List String} {ik is ic mc ms sa : Nat} {A : Nat → Prop}
    (hown : s.vm.findClass own = some m.cls) (hcls : Bundle.fit cls = true) (hnames : ∀ n ∈ names, Bundle.fit n = true)
    (hk : (Cond.classLink own ik cls).before args s = true) (hini : (Cond.initialized cls).before args s = true) (hstr : vk_R own is text sa s) (hat : ∀ w ∈ vx_atS own ic cls names, w.before args s = true)
    (hgood : ∀ w ∈ Cond.classLink own ik cls :: Cond.initialized cls :: vx_atS own ic cls names, vx_ot w = true)
    (hU : vx_Zq Bundle.tN "UNASSIGNED_STACK" Bundle.steD A s s.heap) (hN : vx_Zq Bundle.tN "SUPPRESSED_SENTINEL" Bundle.listD A s s.heap) (hS : va_S A s.heap H locs) (hsize : ls.size = c.maxLocals)
    (d0 : decode cc pc = .ok (.new ik, 3)) (d3 : decode cc (pc + 3) = .ok (.dup, 1)) (d4 : decode cc (pc + 4) = .ok (.ldc_w is, 3)) (d7 : decode cc (pc + 7) = .ok (.invokespecial ic, 3)) (d10 : decode cc (pc + 10) = .ok (.athrow, 1))
    (hout : ∀ x ∈ c.exceptionTable.toList, covers x (pc + 10) = false)
    (hRframes : names.length + 3 < R.frames) (hRlocals : (rest.map fun v => v.category).sum + (13 * (names.length + 1) + 43) ≤ R.locals) (hRcells : cells + 1 ≤ R.cells) (hRslots : slots + 6 ≤ R.slots) (hlocks : meth.locks = false)
    (hx : ∀ t : State, s.vm.Alike t.vm → H.size ≤ t.heap.size → (∀ q : Nat, q < H.size → t.heap[q]? = H[q]?) → XC cls s t)
    (hf : ∀ z ∈ locs, free z.base) (hc : cells + 1 ≤ mc) (hs : slots + 6 ≤ ms) :
    W p l e R s m args below meth c H locs cells slots (vx_MQ below Qc XC args s mc ms free) (F0 m pc ls rest) := by
  intro T hT X
  have htr : e.platform.stackTraces = false := (show e.platform.stackTraces = l.stackTraces by rw [X.admits.platform]).trans hl
  have Y := vx_rebase X (R' := { frames := R.frames, locals := R.locals, cells := 1, slots := 6 }) (Nat.le_refl _) (Nat.le_refl _) hRcells hRslots
  obtain ⟨s', hA⟩ : ∃ z, z = (T.setVm s.vm).setFrames (.invoking m args :: below) := ⟨_, rfl⟩
  rw [← hA] at Y
  have hvm : s'.vm = s.vm := by rw [hA]; rfl
  have hhp : s'.heap = H := by rw [hA]; exact hT
  have hW0 : s.WarmedH s'.vm := by rw [hvm]; exact State.WarmedH.refl s
  have hat' : ∀ w ∈ vx_atS own ic cls names, w.before args s' = true := fun w hw => vx_ot_at hW0 hvm.symm (hgood w (List.mem_cons_of_mem _ (List.mem_cons_of_mem _ hw))) (hat w hw)
  have hk' : (Cond.classLink own ik cls).before args s' = true := vx_ot_at hW0 hvm.symm (hgood _ List.mem_cons_self) hk
  have hini' : (Cond.initialized cls).before args s' = true := vx_ot_at hW0 hvm.symm (hgood _ (List.mem_cons_of_mem _ List.mem_cons_self)) hini
  have hU' : vx_Zq Bundle.tN "UNASSIGNED_STACK" Bundle.steD A s' s'.heap := by rw [hhp]; exact vx_Zq.moved hW0.alike (hU.kept hS.2.1)
  have hN' : vx_Zq Bundle.tN "SUPPRESSED_SENTINEL" Bundle.listD A s' s'.heap := by rw [hhp]; exact vx_Zq.moved hW0.alike (hN.kept hS.2.1)
  have h : ∀ w ∈ Bundle.ownAtoms own ic cls names, w.before args s' = true := vx_own hat' (vx_isRefq hU'.1) (vx_isRefq hN'.1) hU'.2.word hN'.2.word
  have hown' : s'.vm.findClass own = some m.cls := by rw [hvm]; exact hown
  have hins : (Cond.instantiable cls 6).before args s' = true := h _ (by simp [Bundle.ownAtoms])
  obtain ⟨vm₁, cX, kX, hfX, hkX, -, -, X₁, st1⟩ := Y.newCold hexec (own := own) (C := cls) (index := ik) (n := 6) hown' hk' hins hini'
    (g := F0 m pc ls rest) rfl (by rw [hb]; exact d0) (Nat.le_refl _) (Nat.le_refl _)
  generalize hT1 : (T.setVm vm₁).pushCell { cls := cX, slots := kX.instanceTypes.map defaultValue, vm := .none } = T1 at X₁ st1
  have hcat : (Value.ref T.heap.size).category = 1 := rfl
  have hcellA : T1.heap[T.heap.size]? = some (freshCell cX kX) := by rw [← hT1]; exact State.heap_pushCell_size _ _
  have d3' : decode c.code (pc + 3) = .ok (.dup, 1) := by rw [hb]; exact d3
  have d4' : decode c.code (pc + 4) = .ok (.ldc_w is, 3) := by rw [hb]; exact d4
  have hstr' : vk_R own is text sa s' := vk_R.warm hW0 hstr
  obtain ⟨U, hsteps, hrun, hend, hW, hsame, ce, hce, hO⟩ := X₁.ctorThrowS hexec htr (own := own) (cls := cls) (names := names) (ic := ic) hown' hcls hnames h (fun x hx => nomatch hx) hfX hkX hcellA (by rw [hhp, hT]; exact Nat.le_refl _) (msg := .ref sa) rfl
    (g := { method := m, pc := pc + 7, locals := ls, stack := .ref sa :: .ref T.heap.size :: .ref T.heap.size :: rest, locked := none }) rfl hsize rfl rfl (rest := rest) rfl
    (by rw [hb]; exact d7) (by rw [hb]; exact d10) hout hRframes (by simp only [List.map_cons, List.sum_cons, hcat]; omega) hlocks
  obtain ⟨f1, f2⟩ := vx_frame hsame
  rw [hhp] at f1 f2
  have hWs : s.WarmedH U.vm := State.WarmedH.trans hW0 hW
  have hcl : s.vm.findClass cls = some ce.cls := by
    have h9 := hO.cls
    rw [hvm] at h9
    exact h9
  have hall : s.sameButNew ({ U with vm := s.vm } : State) locs mc ms := by
    subst hA
    obtain ⟨e1, e2⟩ := hsame
    rw [State.setFrames_setFrames] at e1
    have h2 : (T.setVm s.vm).sameButNew ({ U with vm := s.vm } : State) [] (0 + 1) (0 + 6) := ⟨e1, e2⟩
    have h3 := X.same.trans h2
    rw [List.append_nil] at h3
    exact h3.mono hc hs
  refine ⟨U, ?_, .threw T.heap.size, hrun, hend, Or.inr ⟨T.heap.size, rfl, cls, ce, locs, hx U hWs.alike f1 (fun q hq => f2 q hq (fun z hz => nomatch hz)), hce, hO.vm, hcl, hWs, hall, hf⟩⟩
  refine st1 _ ?_
  show Steps p.tables e below (T1.setTop { method := m, pc := pc + 3, locals := ls, stack := .ref T.heap.size :: rest, locked := none }) _
  jvm_step X₁.here [X₁.here.top, hexec, d3', Value.category]
  exact X₁.ldcStringW hexec (own := own) (text := text) (index := is) (a := sa) hown' hstr'.1 hstr'.2
    (g := { method := m, pc := pc + 4, locals := ls, stack := .ref T.heap.size :: .ref T.heap.size :: rest, locked := none }) rfl d4' _ hsteps
end Ends
section Bodies
variable {l : Launch}
theorem vx_ofW {y : MethodName} {ws ws' : List Cond} {rm : Room} {Pc : Array Value → State → Prop} {Qc : Array Value → State → Outcome → State → Prop} {XC : String → State → State → Prop} {mc ms : Nat} {free : Addr → Prop} {cc : ByteArray} {maxL : Nat} {ret : Option FieldType}
    (hy : plainName y.cls = true) (hw : ws = Cond.code y cc maxL ret :: ws')
    (body : ∀ p e s m args below meth c s₁, BodyLoose p l y (headSpec ws rm) cc maxL ret e s m args below meth c s₁ → c.maxLocals = maxL → (∀ x ∈ c.exceptionTable.toList, False) → Pc args s →
      W p l e (headSpec ws rm).room s m args below meth c s.heap [] 0 0 (vx_MQ below Qc XC args s mc ms free) (entryFrame m args maxL)) : vx_Met l y ws rm Pc Qc XC mc ms free := by
  refine MetFree.of_bodyS (code := cc) (maxLocals := maxL) (ret := ret) hy ?_ ?_
  · intro args s m h hn
    obtain ⟨meth, c, h1, h2, h3, h4, h5, h6, -, -⟩ := Cond.code_spec hn (atoms_spec (ws := ws) h _ (by rw [hw]; exact List.mem_cons_self))
    exact ⟨meth, c, h1, h2, h3, h4, h5, h6⟩
  · intro p e s m args below meth c s₁ B hml hP _
    have hh0 : s₁.heap = s.heap := by rw [B.state]; rfl
    have ht : ∀ x ∈ c.exceptionTable.toList, False := by
      obtain ⟨meth9, c9, h1, h2, -, -, -, -, h7, -⟩ := Cond.code_spec B.named (atoms_spec (ws := ws) B.pre _ (by rw [hw]; exact List.mem_cons_self))
      cases Option.some.inj (h1.symm.trans B.method)
      cases Option.some.inj (h2.symm.trans (Stand.of_body B).code)
      intro x hx
      rw [Array.isEmpty_iff.mp h7] at hx
      cases hx
    obtain ⟨t, a1, o, b1, b2, b3⟩ := body p e s m args below meth c s₁ B hml ht hP s₁ hh0 (Stand.of_body B)
    exact ⟨t, o, a1, b1, b2, b3⟩
/-- the table of a body with handlers -/
theorem vx_table {p : Program} {x y : MethodName} {S : Spec} {cc bytes : ByteArray} {maxL maxL' : Nat} {ret ret' : Option FieldType} {e : Env} {s s₁ : State} {m : MethodId} {args : Array Value} {below : List Frame} {meth : Method} {c : Code} {hh : List (Nat × Nat × Nat × Nat)}
    (B : BodyLoose p l y S cc maxL ret e s m args below meth c s₁) (h : (Cond.codeWith y bytes maxL' ret' hh).before args s = true) : c.exceptionTable.toList = tableOf hh := by
  obtain ⟨m9, meth9, c9, hn9, h1, h2, -, -, h6, -⟩ := Cond.codeWith_spec h
  cases Option.some.inj (hn9.symm.trans B.named)
  cases Option.some.inj (h1.symm.trans B.method)
  cases Option.some.inj (h2.symm.trans (Stand.of_body B).code)
  rw [← h6, table_eq]
end Bodies
end VXA
/-! ===== END ===== -/
/-! ===== BEGIN a static call of a method with an exception table ===== -/
section VXS
variable {p : Program} {l : Launch} {e : Env} {R : Room} {s : State} {m : MethodId} {args : Array Value} {below : List Frame} {meth : Method} {c : Code} {T : State} {H : Heap} {locs : List Loc} {cells slots : Nat}
abbrev vx_CSW (R : Room) (s : State) (args : Array Value) (own : String) (index : Nat) (y : MethodName) (bytes : ByteArray) (maxL : Nat) (ret : Option FieldType) (hh : List (Nat × Nat × Nat × Nat)) (ws : List Cond) (rm : Room) (mc ms n : Nat) : Prop :=
  (rm.cells = mc ∧ rm.slots = ms ∧ rm.frames + 1 ≤ R.frames ∧ 8 + (maxL + 11) + rm.locals ≤ R.locals ∧ (∀ w ∈ ws, ∀ (a' : Array Value) (U : State), s.WarmedH U.vm → w.before a' U = true) ∧ Cond.codeWith y bytes maxL ret hh ∈ ws) ∧
  (Cond.codeWith y bytes maxL ret hh).before args s = true ∧ (Cond.initialized y.cls).before args s = true ∧ (y.cls ≠ "java/lang/invoke/MethodHandle" ∧ y.cls ≠ "java/lang/invoke/VarHandle") ∧
  (∀ sig, parseMethodDescriptor y.desc = some sig → n = sig.parameters.length) ∧ (Cond.methodLink own index y).before args s = true ∧ (Cond.static y).before args s = true
theorem vx_cwSW {own : String} {index maxL mc ms : Nat} {y : MethodName} {bytes : ByteArray} {ret : Option FieldType} {hh : List (Nat × Nat × Nat × Nat)} {Ts ws ws' : List Cond} {rm : Room} (n : Nat) (ht : ∀ w ∈ Ts, w.before args s = true) (hT : GoodIn Ts (va_wsS own index y ws)) (hw : ws = Cond.codeWith y bytes maxL ret hh :: ws') (hrc : rm.cells = mc) (hrs : rm.slots = ms)
    (hd : y.cls ≠ "java/lang/invoke/MethodHandle" ∧ y.cls ≠ "java/lang/invoke/VarHandle" ∧ (parseMethodDescriptor y.desc).map (fun d => d.parameters.length) = some n) (hR : rm.frames + 1 ≤ R.frames ∧ 8 + (maxL + 11) + rm.locals ≤ R.locals) :
    vx_CSW R s args own index y bytes maxL ret hh ws rm mc ms n := by
  have ok : ∀ w ∈ va_wsS own index y ws, w.before args s = true := fun w h => ht w (hT w h).1
  have hG : GoodIn Ts ws := fun w h => hT w (by unfold va_wsS; exact List.mem_append_right _ h)
  have hc : Cond.codeWith y bytes maxL ret hh ∈ ws := by rw [hw]; exact List.mem_cons_self
  refine ⟨⟨hrc, hrs, hR.1, hR.2, pay_in ht hG, hc⟩, ht _ (hG _ hc).1, ok _ (by simp [va_wsS]), ⟨hd.1, hd.2.1⟩, fun sig h => ?_, ok _ (by simp [va_wsS]), ok _ (by simp [va_wsS])⟩
  have h2 := hd.2.2
  rw [h] at h2
  exact (Option.some.inj h2).symm
theorem vx_callSW (X : Stand p l e R s m args below meth c T locs cells slots) (hexec : p.tables.exec = Jvm.exec) {own : String} {index : Nat} {y : MethodName} {bytes : ByteArray} {maxL : Nat} {ret : Option FieldType} {hh : List (Nat × Nat × Nat × Nat)}
    (hown : s.vm.findClass own = some m.cls) (hlink : (Cond.methodLink own index y).before args s = true) (hstat : (Cond.static y).before args s = true) (hinit : (Cond.initialized y.cls).before args s = true)
    (hcode : (Cond.codeWith y bytes maxL ret hh).before args s = true) (hy : y.cls ≠ "java/lang/invoke/MethodHandle" ∧ y.cls ≠ "java/lang/invoke/VarHandle")
    {W9 : Nat} {Pre : Pt → Array Value → Prop} {Post : Pt → Array Value → Option Value → Pt → Prop} (hK : Back l R p e below s args y 3 W9 Pre Post)
    {g : JFrame} (hg : g.method = m) (hsize : g.locals.size = c.maxLocals) {argsL rest : List Value} (hlen : ∀ sig, parseMethodDescriptor y.desc = some sig → argsL.length = sig.parameters.length)
    (hstack : g.stack = argsL.reverse ++ rest) (hW : 2 * g.monitorRoom + (rest.map fun v => v.category).sum ≤ W9) (hdg : decode c.code g.pc = .ok (.invokestatic index, 3))
    (hpre : ∀ vm₁, s.WarmedH vm₁ → Pre ⟨T.setVm vm₁, locs, cells, slots⟩ argsL.toArray) :
    ∃ (v : Option Value) (vm₁ : Vm) (B : Pt), s.WarmedH vm₁ ∧ Stand p l e R s m args below meth c B.U B.locs B.cells B.slots ∧ Post ⟨T.setVm vm₁, locs, cells, slots⟩ argsL.toArray v B ∧
      ∀ target, Steps p.tables e below (B.U.setTop { g with pc := g.pc + 3, stack := v.toList ++ rest }) target → Steps p.tables e below (T.setTop g) target := by
  obtain ⟨mk, methM, cM, hnamed, hmethM, -, -, -, -, -, -, hsigM⟩ := Cond.codeWith_spec hcode
  have hstatic : methM.isStatic = true := Cond.static_spec hnamed hmethM hstat
  obtain ⟨kP, hkP, -⟩ := className_of_methodNamed hnamed
  have hinitP : kP.init = .initialized := Cond.initialized_spec (findClass_of_methodNamed hnamed) hkP hinit
  obtain ⟨vm₁, X₁, hstep₁⟩ := X.invokestatic hexec hown hlink hnamed hmethM hstatic hkP hinitP hy (g := g) hg (argsL := argsL) (rest := rest) (hlen _ hsigM) hstack hdg
  obtain ⟨v, B, X', hpost, hsteps⟩ := hK m meth c ⟨T.setVm vm₁, locs, cells, slots⟩ { g with stack := rest } (.invokestatic index) mk argsL.toArray X₁ hg hsize hdg hW (X₁.named hnamed) (hpre vm₁ X₁.warmed)
  exact ⟨v, vm₁, B, X₁.warmed, X', hpost, fun target h => hstep₁ _ fun acts => by rw [doInvoke_state]; exact hsteps.trans h⟩
theorem vx_runSW {y : MethodName} {bytes cc : ByteArray} {maxL nL mc ms n index : Nat} {ret : Option FieldType} {hh : List (Nat × Nat × Nat × Nat)} {ws : List Cond} {rm : Room} {Pc : Array Value → State → Prop} {Qc : Array Value → State → Outcome → State → Prop} {free : Addr → Prop} {Ts : List Cond} {own : String} {As rest : List Value} {g : JFrame}
    (S : CallFix p m c cc nL s args Ts own) (hM : Met l y ws rm Pc Qc mc ms free) (cw : vx_CSW R s args own index y bytes maxL ret hh ws rm mc ms n) (hp : PreS s H Pc As)
    (hg : g.method = m) (hn : As.length = n) (hsize : g.locals.size = nL) (hstack : g.stack = As.reverse ++ rest) (hW : 2 * g.monitorRoom + (rest.map fun v => v.category).sum ≤ 8) (hdg : decode cc g.pc = .ok (.invokestatic index, 3)) (hf : cells + mc ≤ R.cells ∧ slots + ms ≤ R.slots) :
    va_Run p l e R s m args below meth c H locs cells slots mc ms g rest (Qc As.toArray) (free) := by
  obtain ⟨⟨hrc, hrs, hfr, hlo, hws, hcw⟩, hcode, hini, hy, hlen, hl, hstt⟩ := cw
  have hK : Back l R p e below s args y 3 8 (PreOf R mc ms Pc) (PostOf Qc mc ms free) := va_backW (hh := hh) (bytes := bytes) (maxL := maxL) (ret := ret) hM hp.1 hrc hrs hfr hlo hws hcw (fun a' U hW => word_at hW (Or.inl (by first | rfl | simp [Cond.onTables, Cond.keeps, Cond.steady])) hini)
  obtain ⟨hx, hb, hml, ho, -⟩ := S
  intro T hT X
  obtain ⟨v, vm₁, ⟨U', l2, c2, s2⟩, hW₁, X', ⟨g', mk, t, L, e1, e2, hq, h1, hL, h2, h3⟩, st⟩ := vx_callSW X hx (hh := hh) (bytes := bytes) (maxL := maxL) (ret := ret) ho hl hstt hini hcode hy hK hg (hsize.trans hml.symm) (argsL := As) (rest := rest) (fun sig h => hn.trans (hlen sig h)) hstack hW (by rw [hb]; exact hdg)
    (fun vm₁ hW₁ => ⟨hf.1, hf.2, hp.2 (T.setVm vm₁) hT hW₁⟩)
  dsimp only [Pt.U, Pt.locs, Pt.cells, Pt.slots] at X' e1 e2 h1 h2 h3 st
  subst h1; subst h2; subst h3
  exact ⟨v, (T.setVm vm₁).calling g' mk As.toArray, t, U', L, hT, X', hL, e1, e2, hq, st⟩
/-- not caught here, past rows that name other classes: it goes on to the caller -/
theorem vx_outP {p : Program} {l : Launch} {e : Env} {R : Room} {s : State} {m : MethodId} {args : Array Value} {below : List Frame} {meth : Method} {c : Code} {H : Heap} {locs : List Loc} {cells slots : Nat} {free : Addr → Prop} {ls : Array Slot} {rest : List Value} {Qc : Array Value → State → Outcome → State → Prop} {XC : String → State → State → Prop}
    {pc : Nat} {own E : String} {ce : Cell} {q : Addr} {mc ms : Nat} (hown : s.vm.findClass own = some m.cls) (hlocks : meth.locks = false)
    (hpass : ∀ z ∈ c.exceptionTable.toList, covers z pc = false ∨ (z.catchType ≠ 0 ∧ ∃ nm : String, (Cond.classLink own z.catchType nm).before args s = true ∧ va_Nc E nm s)) (hcell : H[q]? = some ce) (hv : ce.vm = .none) (hcl : s.vm.findClass E = some ce.cls)
    (hx : ∀ t : State, t.heap = H → s.vm.Alike t.vm → XC E s t) (hf : ∀ z ∈ locs, free z.base) (hc : cells ≤ mc) (hs : slots ≤ ms) :
    vx_W p l e R s m args below meth c H locs cells slots (vx_MQ below Qc XC args s mc ms free) (F0 m pc ls rest) q := by
  intro T hT X
  have hpl : e.platform.magicAccessors = ({} : Platform).magicAccessors := by rw [X.admits.platform]
  obtain ⟨vm', hW', X', st⟩ := X.outThrough hlocks q (g := F0 m pc ls rest) rfl rfl rfl (cell := ce) (by rw [hT]; exact hcell) (by rw [hv]; rfl)
    (by obtain ⟨k9, h9, -⟩ := Vm.findClass_spec hcl; exact ⟨k9, h9⟩) (fun z hz => by
      rcases hpass z hz with h | ⟨hz0, nm, hl1, hn1⟩
      · exact Or.inl h
      · obtain ⟨c6, hc6, hcl6⟩ := Cond.classLink_spec hown hl1 e.platform hpl
        obtain ⟨a8, b8, h1, h2, h3⟩ := hn1
        cases Option.some.inj (h1.symm.trans hcl)
        cases Option.some.inj (h2.symm.trans hc6)
        exact Or.inr ⟨hz0, _, hcl6, h3⟩)
  obtain ⟨g₀, hfr⟩ := X'.frames_eq
  have hcell9 : ((T.setVm vm').setFrames (.throwing q :: below)).heap[q]? = some ce := by
    show T.heap[q]? = some ce
    rw [hT]; exact hcell
  have hend : Ended ((T.setVm vm').setFrames (.throwing q :: below)) below (.threw q) := State.frames_setFrames _ (State.cur_lt_of_frames hfr)
  refine ⟨(T.setVm vm').setFrames (.throwing q :: below), ?_, .threw q, X'.here.running, hend, Or.inr ⟨q, rfl, E, ce, locs, hx _ hT (X'.ends _).1.alike, hcell9, hv, hcl, (X'.ends _).1, (X'.ends _).2.mono hc hs, hf⟩⟩
  rw [X.pushThrowing_eq]
  exact st
/-- a thing of a world lies in the heap -/
theorem vx_lt {D : va_G} {cl : List vw_C} {ws : va_W} {H1 : Heap} (h : va_P D cl ws H1) {k : Nat} {q : Nat × va_E} (hk : ws[k]? = some q) : q.1 < H1.size := (h k q hk).lt
end VXS
/-! ===== END ===== -/
/-! ===== BEGIN methods with a table of their own: called by a name, returning or throwing ===== -/
section VXH
/-! vx_backW, vx_callVX, vx_callSX, vx_callVW, vx_runVW, vx_runVX, vx_runSX, vx_ofWH follow the same proofs as their sisters above (Free/Laws.lean, Shelf42/LK1.lean); vx_outP calls Shelf42/NT130.lean (outThrough). -/
section
variable {l : Launch} {R : Room} {p : Program} {e : Env} {below : List Frame} {s : State} {sargs : Array Value} {y : MethodName} {len W9 : Nat}
theorem vx_backW {ws : List Cond} {rm : Room} {Pc : Array Value → State → Prop} {Qc : Array Value → State → Outcome → State → Prop} {XC : String → State → State → Prop} {mc ms : Nat} {free : Addr → Prop} {bytes : ByteArray} {maxL : Nat} {ret : Option FieldType} {hh : List (Nat × Nat × Nat × Nat)}
    (hM : vx_Met l y ws rm Pc Qc XC mc ms free) (hblind : FrameBlind Pc) (hrc : rm.cells = mc) (hrs : rm.slots = ms)
    (hframes : rm.frames + 1 ≤ R.frames) (hlocals : W9 + (maxL + 11) + rm.locals ≤ R.locals)
    (hws : ∀ w ∈ ws, ∀ a' U, s.WarmedH U.vm → w.before a' U = true) (hcode : Cond.codeWith y bytes maxL ret hh ∈ ws) (hinit : ∀ a' U, s.WarmedH U.vm → (Cond.initialized y.cls).before a' U = true) :
    vx_Back l R p e below s sargs y len W9 (PreOf R mc ms Pc) (PostOf Qc mc ms free) (vx_Post XC mc ms free) := by
  intro m meth c A g ig mk a X hg hsize hdg hW hn hp
  have h1 : (headSpec ws rm).pre.before a A.U = true := atoms_intro fun w hw => hws w hw _ _ X.warmed
  have h2 : (Cond.codeWith y bytes maxL ret hh).before a A.U = true := hws _ hcode _ _ X.warmed
  have h3 : (Cond.initialized y.cls).before a A.U = true := hinit _ _ X.warmed
  have h4 : A.cells + (headSpec ws rm).room.cells ≤ R.cells := by rw [show (headSpec ws rm).room.cells = mc from hrc]; exact hp.1
  have h5 : A.slots + (headSpec ws rm).room.slots ≤ R.slots := by rw [show (headSpec ws rm).room.slots = ms from hrs]; exact hp.2.1
  have hPc : Pc a (A.U.calling g mk a) := hblind _ _ _ _ hp.2.2
  obtain ⟨U, Ls, c0, s0⟩ := A
  dsimp only [Pt.U, Pt.locs, Pt.cells, Pt.slots] at h1 h2 h3 h4 h5 X hn hPc ⊢
  obtain ⟨m9, methY, cY, hn9, hmY, hcY, -, hlY, -⟩ := Cond.codeWith_spec h2
  cases Option.some.inj (hn9.symm.trans hn)
  obtain ⟨kY, hkY, -⟩ := className_of_methodNamed hn
  have hinitY : kY.init = .initialized := Cond.initialized_spec (findClass_of_methodNamed hn) hkY h3
  have h : At U g.method c below := by rw [hg]; exact X.here
  have hlocals9 : W9 + (maxL + 11) + (headSpec ws rm).room.locals ≤ R.locals := hlocals
  have happ : (headSpec ws rm).appliesLoose y e.platform (U.calling g mk a) = true :=
    Spec.appliesLoose_calling (g := g) h hdg hn hkY hinitY
      (X.room_calling (g := g) (R' := (headSpec ws rm).room) hsize hmY hcY hframes (by rw [hlY]; omega) h4 h5) h1
  obtain ⟨mid, hmid⟩ := h.above
  have hfr : (U.setTop g).frames = (.java g :: mid) ++ below := by rw [State.frames_setTop' g h.top, hmid]; rfl
  obtain ⟨o, s₂, hsteps, -, hend, hq⟩ := Steps.callFree hM p X.admits X.cas X.clock (acts := []) hfr happ hPc trivial
  have hq' : vx_Q Qc XC mc ms free a (U.calling g mk a) o s₂ := hq
  rw [State.frames_setTop' g h.top] at hend
  obtain ⟨g₀, hg0⟩ := Option.isSome_iff_exists.mp h.top
  obtain ⟨r, hr⟩ := State.topJava?_eq_some.mp hg0
  have hr' : (({ U with heap := s₂.heap, slotsUsed := s₂.slotsUsed } : State).setVm s₂.vm).frames = .java g₀ :: r := hr
  rcases hq' with ⟨hqc, L, hfe, hL⟩ | ⟨q, rfl, E, ce, L, hx, hce, hcv, hcl, hW₂, hsm, hL⟩
  · obtain ⟨⟨v, rfl⟩, hW₂, e2, q2, q3, q4, q5, q6⟩ := id hfe
    have e3 : s₂ = ({ (U.calling g mk a).setFrames s₂.frames with heap := s₂.heap, slotsUsed := s₂.slotsUsed } : State).setVm s₂.vm := by
      have : s₂ = ({ s₂ with vm := (U.calling g mk a).vm } : State).setVm s₂.vm := rfl
      rw [e2] at this
      exact this
    obtain ⟨c₂, i₂, len₂, hc₂, hd₂, hf₂⟩ := hend
    have hW' : U.WarmedH s₂.vm := hW₂
    have hcc : c₂ = c := by
      have h1 : s₂.code? g.method = U.code? g.method := by
        rw [State.code?_eq, State.code?_eq, hW'.alike.method?]
      exact Option.some.inj (hc₂.symm.trans (h1.trans h.code))
    subst hcc
    have hlen : len₂ = len := by rw [hdg] at hd₂; cases hd₂; rfl
    subst hlen
    have hs₂ : s₂ = (({ U with heap := s₂.heap, slotsUsed := s₂.slotsUsed } : State).setVm s₂.vm).setTop { g with pc := g.pc + len₂, stack := v.toList ++ g.stack } := by
      refine e3.trans ?_
      rw [hf₂, State.calling_eq h.top, State.setFrames_setFrames, State.setTop_of_frames _ hr', hr]
      rfl
    have hsame : U.sameButNew ({ U with heap := s₂.heap, slotsUsed := s₂.slotsUsed } : State) L mc ms := by
      refine ⟨?_, q2, q3, q4, q5, q6⟩
      obtain ⟨t, ht, -⟩ := State.frames_cons hr
      show ({ U with heap := s₂.heap, slotsUsed := s₂.slotsUsed } : State) = { U.setFrames U.frames with heap := s₂.heap, slotsUsed := s₂.slotsUsed }
      rw [State.setFrames_self ht]
    subst hg
    refine Or.inl ⟨v, ⟨(({ U with heap := s₂.heap, slotsUsed := s₂.slotsUsed } : State).setVm s₂.vm), Ls ++ L, c0 + mc, s0 + ms⟩,
      ⟨X.admits, X.cas, X.clock, X.frames, X.room, X.hears, X.method, X.code, (X.here.setHeapUsed s₂.heap s₂.slotsUsed).setVm hW'.alike, X.tail, State.WarmedH.trans X.warmed hW', X.limits, X.bytes, X.same.trans (hsame.setVm s.vm)⟩,
      ⟨g, mk, s₂, L, rfl, rfl, hqc, rfl, hL, rfl, rfl⟩, ?_⟩
    show Steps p.tables e below _ ((({ U with heap := s₂.heap, slotsUsed := s₂.slotsUsed } : State).setVm s₂.vm).setTop { g with pc := g.pc + len₂, stack := v.toList ++ g.stack })
    rw [← hs₂]
    exact hsteps
  · obtain ⟨e2, q2, q3, q4, q5, q6⟩ := id hsm
    have e3 : s₂ = ({ (U.calling g mk a).setFrames s₂.frames with heap := s₂.heap, slotsUsed := s₂.slotsUsed } : State).setVm s₂.vm := by
      have : s₂ = ({ s₂ with vm := (U.calling g mk a).vm } : State).setVm s₂.vm := rfl
      rw [e2] at this
      exact this
    have hf₂ : s₂.frames = .throwing q :: .java g :: U.frames.tail := hend
    have hW' : U.WarmedH s₂.vm := hW₂
    have hs₂ : s₂ = ((({ U with heap := s₂.heap, slotsUsed := s₂.slotsUsed } : State).setVm s₂.vm).setTop g).pushFrame (.throwing q) := by
      refine e3.trans ?_
      rw [hf₂, State.calling_eq h.top, State.setFrames_setFrames, State.pushFrame, State.frames_setTop _ hr', State.setTop_of_frames _ hr', State.setFrames_setFrames, hr]
      rfl
    have hsame : U.sameButNew ({ U with heap := s₂.heap, slotsUsed := s₂.slotsUsed } : State) L mc ms := by
      refine ⟨?_, q2, q3, q4, q5, q6⟩
      obtain ⟨t, ht, -⟩ := State.frames_cons hr
      show ({ U with heap := s₂.heap, slotsUsed := s₂.slotsUsed } : State) = { U.setFrames U.frames with heap := s₂.heap, slotsUsed := s₂.slotsUsed }
      rw [State.setFrames_self ht]
    subst hg
    refine Or.inr ⟨q, ⟨(({ U with heap := s₂.heap, slotsUsed := s₂.slotsUsed } : State).setVm s₂.vm), Ls ++ L, c0 + mc, s0 + ms⟩,
      ⟨X.admits, X.cas, X.clock, X.frames, X.room, X.hears, X.method, X.code, (X.here.setHeapUsed s₂.heap s₂.slotsUsed).setVm hW'.alike, X.tail, State.WarmedH.trans X.warmed hW', X.limits, X.bytes, X.same.trans (hsame.setVm s.vm)⟩,
      ⟨g, mk, s₂, L, E, ce, rfl, rfl, hx, hce, hcv, hcl, rfl, hL, rfl, rfl⟩, ?_⟩
    show Steps p.tables e below _ (((({ U with heap := s₂.heap, slotsUsed := s₂.slotsUsed } : State).setVm s₂.vm).setTop g).pushFrame (.throwing q))
    rw [← hs₂]
    exact hsteps
end
variable {p : Program} {l : Launch} {e : Env} {R : Room} {s : State} {m : MethodId} {args : Array Value} {below : List Frame} {meth : Method} {c : Code} {T : State} {H : Heap} {locs : List Loc} {cells slots : Nat}
theorem vx_callVX (X : Stand p l e R s m args below meth c T locs cells slots) (hexec : p.tables.exec = Jvm.exec) {own C : String} {index : Nat} {y : MethodName} {bytes : ByteArray} {maxL : Nat} {ret : Option FieldType} {hh : List (Nat × Nat × Nat × Nat)}
    (hown : s.vm.findClass own = some m.cls) (hlink : (Cond.methodLink own index y).before args s = true) (hinst : (Cond.instanceMethod y).before args s = true) (hsel : (Cond.selects C y y).before args s = true)
    (hcode : (Cond.codeWith y bytes maxL ret hh).before args s = true) (hy : y.cls ≠ "java/lang/invoke/MethodHandle" ∧ y.cls ≠ "java/lang/invoke/VarHandle")
    {W9 : Nat} {Pre : Pt → Array Value → Prop} {Post : Pt → Array Value → Option Value → Pt → Prop} {PostX : Pt → Array Value → Addr → Pt → Prop} (hK : vx_Back l R p e below s args y 3 W9 Pre Post PostX)
    {b : Addr} {cellB : Cell} (hcell : T.heap[b]? = some cellB) (hobj : cellB.vm.isStatics = false) (hcls : s.vm.findClass C = some cellB.cls)
    {g : JFrame} (hg : g.method = m) (hsize : g.locals.size = c.maxLocals) {argsL rest : List Value} (hlen : ∀ sig, parseMethodDescriptor y.desc = some sig → argsL.length = sig.parameters.length)
    (hstack : g.stack = argsL.reverse ++ .ref b :: rest) (hW : 2 * g.monitorRoom + (rest.map fun v => v.category).sum ≤ W9) (hdg : decode c.code g.pc = .ok (.invokevirtual index, 3))
    (hpre : ∀ vm₁, s.WarmedH vm₁ → Pre ⟨T.setVm vm₁, locs, cells, slots⟩ (Value.ref b :: argsL).toArray) :
    (∃ (v : Option Value) (vm₁ : Vm) (B : Pt), s.WarmedH vm₁ ∧ Stand p l e R s m args below meth c B.U B.locs B.cells B.slots ∧ Post ⟨T.setVm vm₁, locs, cells, slots⟩ (Value.ref b :: argsL).toArray v B ∧
      ∀ target, Steps p.tables e below (B.U.setTop { g with pc := g.pc + 3, stack := v.toList ++ rest }) target → Steps p.tables e below (T.setTop g) target) ∨
    (∃ (q : Addr) (vm₁ : Vm) (B : Pt), s.WarmedH vm₁ ∧ Stand p l e R s m args below meth c B.U B.locs B.cells B.slots ∧ PostX ⟨T.setVm vm₁, locs, cells, slots⟩ (Value.ref b :: argsL).toArray q B ∧
      Steps p.tables e below (T.setTop g) ((B.U.setTop { g with stack := rest }).pushFrame (.throwing q))) := by
  obtain ⟨mk, methM, hnamed, hmethM, hstM, habM⟩ := Cond.instanceMethod_spec hinst
  obtain ⟨m8, methM', cM, hn8, hmethM', -, -, -, -, -, -, hsigM⟩ := Cond.codeWith_spec hcode
  cases Option.some.inj (hn8.symm.trans hnamed)
  cases hmethM.symm.trans hmethM'
  obtain ⟨c2, r2, m2, q1, q2, q3, q4, kP, hkP, hkPi⟩ := Cond.selects_spec hsel
  cases hcls.symm.trans q1
  cases (State.methodFound?_of_named hnamed hy).symm.trans q2
  cases hnamed.symm.trans q3
  have hselP : selectMethod e.platform s.vm cellB.cls mk = .method mk := by rw [Launch.admits_selectMethod X.admits]; exact q4
  obtain ⟨vm₁, X₁, hstep₁⟩ := X.invokevirtual hexec hown hlink hnamed hmethM hstM hkP hkPi hy (a := b) (cell := cellB) hcell
    (fun z h => by rw [h] at hobj; cases hobj) hselP hmethM habM hkP hkPi (g := g) hg (argsL := argsL) (rest := rest) (hlen _ hsigM) hstack hdg
  rcases hK m meth c ⟨T.setVm vm₁, locs, cells, slots⟩ { g with stack := rest } (.invokevirtual index) mk (Value.ref b :: argsL).toArray X₁ hg hsize hdg hW (X₁.named hnamed) (hpre vm₁ X₁.warmed) with ⟨v, B, X', hpost, hsteps⟩ | ⟨q, B, X', hpost, hsteps⟩
  · exact Or.inl ⟨v, vm₁, B, X₁.warmed, X', hpost, fun target h => hstep₁ _ fun acts => by rw [doInvoke_state]; exact hsteps.trans h⟩
  · exact Or.inr ⟨q, vm₁, B, X₁.warmed, X', hpost, hstep₁ _ fun acts => by rw [doInvoke_state]; exact hsteps⟩
theorem vx_callSX (X : Stand p l e R s m args below meth c T locs cells slots) (hexec : p.tables.exec = Jvm.exec) {own : String} {index : Nat} {y : MethodName} {bytes : ByteArray} {maxL : Nat} {ret : Option FieldType} {hh : List (Nat × Nat × Nat × Nat)}
    (hown : s.vm.findClass own = some m.cls) (hlink : (Cond.methodLink own index y).before args s = true) (hstat : (Cond.static y).before args s = true) (hinit : (Cond.initialized y.cls).before args s = true)
    (hcode : (Cond.codeWith y bytes maxL ret hh).before args s = true) (hy : y.cls ≠ "java/lang/invoke/MethodHandle" ∧ y.cls ≠ "java/lang/invoke/VarHandle")
    {W9 : Nat} {Pre : Pt → Array Value → Prop} {Post : Pt → Array Value → Option Value → Pt → Prop} {PostX : Pt → Array Value → Addr → Pt → Prop} (hK : vx_Back l R p e below s args y 3 W9 Pre Post PostX)
    {g : JFrame} (hg : g.method = m) (hsize : g.locals.size = c.maxLocals) {argsL rest : List Value} (hlen : ∀ sig, parseMethodDescriptor y.desc = some sig → argsL.length = sig.parameters.length)
    (hstack : g.stack = argsL.reverse ++ rest) (hW : 2 * g.monitorRoom + (rest.map fun v => v.category).sum ≤ W9) (hdg : decode c.code g.pc = .ok (.invokestatic index, 3))
    (hpre : ∀ vm₁, s.WarmedH vm₁ → Pre ⟨T.setVm vm₁, locs, cells, slots⟩ argsL.toArray) :
    (∃ (v : Option Value) (vm₁ : Vm) (B : Pt), s.WarmedH vm₁ ∧ Stand p l e R s m args below meth c B.U B.locs B.cells B.slots ∧ Post ⟨T.setVm vm₁, locs, cells, slots⟩ argsL.toArray v B ∧
      ∀ target, Steps p.tables e below (B.U.setTop { g with pc := g.pc + 3, stack := v.toList ++ rest }) target → Steps p.tables e below (T.setTop g) target) ∨
    (∃ (q : Addr) (vm₁ : Vm) (B : Pt), s.WarmedH vm₁ ∧ Stand p l e R s m args below meth c B.U B.locs B.cells B.slots ∧ PostX ⟨T.setVm vm₁, locs, cells, slots⟩ argsL.toArray q B ∧
      Steps p.tables e below (T.setTop g) ((B.U.setTop { g with stack := rest }).pushFrame (.throwing q))) := by
  obtain ⟨mk, methM, cM, hnamed, hmethM, -, -, -, -, -, -, hsigM⟩ := Cond.codeWith_spec hcode
  have hstatic : methM.isStatic = true := Cond.static_spec hnamed hmethM hstat
  obtain ⟨kP, hkP, -⟩ := className_of_methodNamed hnamed
  have hinitP : kP.init = .initialized := Cond.initialized_spec (findClass_of_methodNamed hnamed) hkP hinit
  obtain ⟨vm₁, X₁, hstep₁⟩ := X.invokestatic hexec hown hlink hnamed hmethM hstatic hkP hinitP hy (g := g) hg (argsL := argsL) (rest := rest) (hlen _ hsigM) hstack hdg
  rcases hK m meth c ⟨T.setVm vm₁, locs, cells, slots⟩ { g with stack := rest } (.invokestatic index) mk argsL.toArray X₁ hg hsize hdg hW (X₁.named hnamed) (hpre vm₁ X₁.warmed) with ⟨v, B, X', hpost, hsteps⟩ | ⟨q, B, X', hpost, hsteps⟩
  · exact Or.inl ⟨v, vm₁, B, X₁.warmed, X', hpost, fun target h => hstep₁ _ fun acts => by rw [doInvoke_state]; exact hsteps.trans h⟩
  · exact Or.inr ⟨q, vm₁, B, X₁.warmed, X', hpost, hstep₁ _ fun acts => by rw [doInvoke_state]; exact hsteps⟩
theorem vx_callVW (X : Stand p l e R s m args below meth c T locs cells slots) (hexec : p.tables.exec = Jvm.exec) {own C : String} {index : Nat} {y : MethodName} {bytes : ByteArray} {maxL : Nat} {ret : Option FieldType} {hh : List (Nat × Nat × Nat × Nat)}
    (hown : s.vm.findClass own = some m.cls) (hlink : (Cond.methodLink own index y).before args s = true) (hinst : (Cond.instanceMethod y).before args s = true) (hsel : (Cond.selects C y y).before args s = true)
    (hcode : (Cond.codeWith y bytes maxL ret hh).before args s = true) (hy : y.cls ≠ "java/lang/invoke/MethodHandle" ∧ y.cls ≠ "java/lang/invoke/VarHandle")
    {W9 : Nat} {Pre : Pt → Array Value → Prop} {Post : Pt → Array Value → Option Value → Pt → Prop} (hK : Back l R p e below s args y 3 W9 Pre Post)
    {b : Addr} {cellB : Cell} (hcell : T.heap[b]? = some cellB) (hobj : cellB.vm.isStatics = false) (hcls : s.vm.findClass C = some cellB.cls)
    {g : JFrame} (hg : g.method = m) (hsize : g.locals.size = c.maxLocals) {argsL rest : List Value} (hlen : ∀ sig, parseMethodDescriptor y.desc = some sig → argsL.length = sig.parameters.length)
    (hstack : g.stack = argsL.reverse ++ .ref b :: rest) (hW : 2 * g.monitorRoom + (rest.map fun v => v.category).sum ≤ W9) (hdg : decode c.code g.pc = .ok (.invokevirtual index, 3))
    (hpre : ∀ vm₁, s.WarmedH vm₁ → Pre ⟨T.setVm vm₁, locs, cells, slots⟩ (Value.ref b :: argsL).toArray) :
    ∃ (v : Option Value) (vm₁ : Vm) (B : Pt), s.WarmedH vm₁ ∧ Stand p l e R s m args below meth c B.U B.locs B.cells B.slots ∧ Post ⟨T.setVm vm₁, locs, cells, slots⟩ (Value.ref b :: argsL).toArray v B ∧
      ∀ target, Steps p.tables e below (B.U.setTop { g with pc := g.pc + 3, stack := v.toList ++ rest }) target → Steps p.tables e below (T.setTop g) target := by
  obtain ⟨mk, methM, hnamed, hmethM, hstM, habM⟩ := Cond.instanceMethod_spec hinst
  obtain ⟨m8, methM', cM, hn8, hmethM', -, -, -, -, -, -, hsigM⟩ := Cond.codeWith_spec hcode
  cases Option.some.inj (hn8.symm.trans hnamed)
  cases hmethM.symm.trans hmethM'
  obtain ⟨c2, r2, m2, q1, q2, q3, q4, kP, hkP, hkPi⟩ := Cond.selects_spec hsel
  cases hcls.symm.trans q1
  cases (State.methodFound?_of_named hnamed hy).symm.trans q2
  cases hnamed.symm.trans q3
  have hselP : selectMethod e.platform s.vm cellB.cls mk = .method mk := by rw [Launch.admits_selectMethod X.admits]; exact q4
  obtain ⟨vm₁, X₁, hstep₁⟩ := X.invokevirtual hexec hown hlink hnamed hmethM hstM hkP hkPi hy (a := b) (cell := cellB) hcell
    (fun z h => by rw [h] at hobj; cases hobj) hselP hmethM habM hkP hkPi (g := g) hg (argsL := argsL) (rest := rest) (hlen _ hsigM) hstack hdg
  obtain ⟨v, B, X', hpost, hsteps⟩ := hK m meth c ⟨T.setVm vm₁, locs, cells, slots⟩ { g with stack := rest } (.invokevirtual index) mk (Value.ref b :: argsL).toArray X₁ hg hsize hdg hW (X₁.named hnamed) (hpre vm₁ X₁.warmed)
  exact ⟨v, vm₁, B, X₁.warmed, X', hpost, fun target h => hstep₁ _ fun acts => by rw [doInvoke_state]; exact hsteps.trans h⟩
abbrev vx_CVW (R : Room) (s : State) (args : Array Value) (own C : String) (index : Nat) (y : MethodName) (bytes : ByteArray) (maxL : Nat) (ret : Option FieldType) (hh : List (Nat × Nat × Nat × Nat)) (ws : List Cond) (rm : Room) (mc ms n : Nat) : Prop :=
  (rm.cells = mc ∧ rm.slots = ms ∧ rm.frames + 1 ≤ R.frames ∧ 8 + (maxL + 11) + rm.locals ≤ R.locals ∧ (∀ w ∈ ws, ∀ (a' : Array Value) (U : State), s.WarmedH U.vm → w.before a' U = true) ∧ Cond.codeWith y bytes maxL ret hh ∈ ws) ∧
  (Cond.codeWith y bytes maxL ret hh).before args s = true ∧ (Cond.initialized y.cls).before args s = true ∧ (y.cls ≠ "java/lang/invoke/MethodHandle" ∧ y.cls ≠ "java/lang/invoke/VarHandle") ∧
  (∀ sig, parseMethodDescriptor y.desc = some sig → n = sig.parameters.length) ∧ (Cond.methodLink own index y).before args s = true ∧ (Cond.instanceMethod y).before args s = true ∧ (Cond.selects C y y).before args s = true
theorem vx_cwVW {own C : String} {index maxL mc ms : Nat} {y : MethodName} {bytes : ByteArray} {ret : Option FieldType} {hh : List (Nat × Nat × Nat × Nat)} {Ts ws ws' : List Cond} {rm : Room} (n : Nat) (ht : ∀ w ∈ Ts, w.before args s = true) (hT : GoodIn Ts (wsV own index C y ws)) (hw : ws = Cond.codeWith y bytes maxL ret hh :: ws') (hrc : rm.cells = mc) (hrs : rm.slots = ms)
    (hd : y.cls = C ∧ y.cls ≠ "java/lang/invoke/MethodHandle" ∧ y.cls ≠ "java/lang/invoke/VarHandle" ∧ (parseMethodDescriptor y.desc).map (fun d => d.parameters.length) = some n) (hR : rm.frames + 1 ≤ R.frames ∧ 8 + (maxL + 11) + rm.locals ≤ R.locals) :
    vx_CVW R s args own C index y bytes maxL ret hh ws rm mc ms n := by
  obtain ⟨hC, hd⟩ := hd
  subst hC
  have ok : ∀ w ∈ wsV own index y.cls y ws, w.before args s = true := fun w h => ht w (hT w h).1
  have hG : GoodIn Ts ws := fun w h => hT w (by unfold wsV; exact List.mem_append_right _ h)
  have hc : Cond.codeWith y bytes maxL ret hh ∈ ws := by rw [hw]; exact List.mem_cons_self
  refine ⟨⟨hrc, hrs, hR.1, hR.2, pay_in ht hG, hc⟩, ht _ (hG _ hc).1, ok _ (by simp [wsV]), ⟨hd.1, hd.2.1⟩, fun sig h => ?_, ok _ (by simp [wsV]), ok _ (by simp [wsV]), ok _ (by simp [wsV])⟩
  have h2 := hd.2.2
  rw [h] at h2
  exact (Option.some.inj h2).symm
theorem vx_runVW {y : MethodName} {bytes cc : ByteArray} {maxL nL mc ms n index : Nat} {ret : Option FieldType} {hh : List (Nat × Nat × Nat × Nat)} {ws : List Cond} {rm : Room} {Pc : Array Value → State → Prop} {Qc : Array Value → State → Outcome → State → Prop} {free : Addr → Prop} {Ts : List Cond} {own C : String} {b : Addr} {As rest : List Value} {g : JFrame}
    (S : CallFix p m c cc nL s args Ts own) (hM : Met l y ws rm Pc Qc mc ms free) (cw : vx_CVW R s args own C index y bytes maxL ret hh ws rm mc ms n) (hp : PreV s H C b Pc As)
    (hg : g.method = m) (hn : As.length = n) (hsize : g.locals.size = nL) (hstack : g.stack = As.reverse ++ .ref b :: rest) (hW : 2 * g.monitorRoom + (rest.map fun v => v.category).sum ≤ 8) (hdg : decode cc g.pc = .ok (.invokevirtual index, 3)) (hf : cells + mc ≤ R.cells ∧ slots + ms ≤ R.slots) :
    va_Run p l e R s m args below meth c H locs cells slots mc ms g rest (Qc (Value.ref b :: As).toArray) free := by
  obtain ⟨⟨hrc, hrs, hfr, hlo, hws, hcw⟩, hcode, hini, hy, hlen, hl, hin, hse⟩ := cw
  have hK : Back l R p e below s args y 3 8 (PreOf R mc ms Pc) (PostOf Qc mc ms free) := va_backW (hh := hh) (bytes := bytes) (maxL := maxL) (ret := ret) hM hp.1 hrc hrs hfr hlo hws hcw (fun a' U hW => word_at hW (Or.inl (by first | rfl | simp [Cond.onTables, Cond.keeps, Cond.steady])) hini)
  obtain ⟨hx, hb, hml, ho, -⟩ := S
  obtain ⟨-, ⟨cellB, hcB, hoB, hclB⟩, hPc⟩ := hp
  intro T hT X
  obtain ⟨v, vm₁, ⟨U', l2, c2, s2⟩, hW₁, X', ⟨g', mk, t, L, e1, e2, hq, h1, hL, h2, h3⟩, st⟩ := vx_callVW X hx (C := C) (hh := hh) (bytes := bytes) (maxL := maxL) (ret := ret) ho hl hin hse hcode hy hK (by rw [hT]; exact hcB) hoB hclB hg (hsize.trans hml.symm) (argsL := As) (rest := rest) (fun sig h => hn.trans (hlen sig h)) hstack hW (by rw [hb]; exact hdg)
    (fun vm₁ hW₁ => ⟨hf.1, hf.2, hPc (T.setVm vm₁) hT hW₁⟩)
  dsimp only [Pt.U, Pt.locs, Pt.cells, Pt.slots] at X' e1 e2 h1 h2 h3 st
  subst h1; subst h2; subst h3
  exact ⟨v, (T.setVm vm₁).calling g' mk (Value.ref b :: As).toArray, t, U', L, hT, X', hL, e1, e2, hq, st⟩
section
variable {y : MethodName} {bytes cc : ByteArray} {maxL nL mc ms n index : Nat} {ret : Option FieldType} {ws : List Cond} {rm : Room} {Pc : Array Value → State → Prop} {Qc : Array Value → State → Outcome → State → Prop} {XC : String → State → State → Prop} {free : Addr → Prop} {Ts : List Cond} {own C : String} {b : Addr} {As rest : List Value} {g : JFrame}
theorem vx_runVX {hh : List (Nat × Nat × Nat × Nat)} (S : CallFix p m c cc nL s args Ts own) (hM : vx_Met l y ws rm Pc Qc XC mc ms free) (cw : vx_CVW R s args own C index y bytes maxL ret hh ws rm mc ms n) (hp : PreV s H C b Pc As)
    (hg : g.method = m) (hn : As.length = n) (hsize : g.locals.size = nL) (hstack : g.stack = As.reverse ++ .ref b :: rest) (hW : 2 * g.monitorRoom + (rest.map fun v => v.category).sum ≤ 8) (hdg : decode cc g.pc = .ok (.invokevirtual index, 3)) (hf : cells + mc ≤ R.cells ∧ slots + ms ≤ R.slots) :
    vx_Run p l e R s m args below meth c H locs cells slots mc ms g rest (Qc (Value.ref b :: As).toArray) XC free := by
  obtain ⟨⟨hrc, hrs, hfr, hlo, hws, hcw⟩, hcode, hini, hy, hlen, hl, hin, hse⟩ := cw
  have hK : vx_Back l R p e below s args y 3 8 (PreOf R mc ms Pc) (PostOf Qc mc ms free) (vx_Post XC mc ms free) := vx_backW (hh := hh) (bytes := bytes) (maxL := maxL) (ret := ret) hM hp.1 hrc hrs hfr hlo hws hcw (fun a' U hW => word_at hW (Or.inl (by first | rfl | simp [Cond.onTables, Cond.keeps, Cond.steady])) hini)
  obtain ⟨hx, hb, hml, ho, -⟩ := S
  obtain ⟨-, ⟨cellB, hcB, hoB, hclB⟩, hPc⟩ := hp
  intro T hT X
  rcases vx_callVX X hx (C := C) (hh := hh) (bytes := bytes) (maxL := maxL) (ret := ret) ho hl hin hse hcode hy hK (by rw [hT]; exact hcB) hoB hclB hg (hsize.trans hml.symm) (argsL := As) (rest := rest) (fun sig h => hn.trans (hlen sig h)) hstack hW (by rw [hb]; exact hdg)
    (fun vm₁ hW₁ => ⟨hf.1, hf.2, hPc (T.setVm vm₁) hT hW₁⟩) with ⟨v, vm₁, ⟨U', l2, c2, s2⟩, hW₁, X', ⟨g', mk, t, L, e1, e2, hq, h1, hL, h2, h3⟩, st⟩ | ⟨q, vm₁, ⟨U', l2, c2, s2⟩, hW₁, X', ⟨g', mk, t, L, E, ce, e1, e2, hq, hce, hcv, hcl, h1, hL, h2, h3⟩, st⟩
  · dsimp only [Pt.U, Pt.locs, Pt.cells, Pt.slots] at X' e1 e2 h1 h2 h3 st
    subst h1; subst h2; subst h3
    exact Or.inl ⟨v, (T.setVm vm₁).calling g' mk (Value.ref b :: As).toArray, t, U', L, hT, X', hL, e1, e2, hq, st⟩
  · dsimp only [Pt.U, Pt.locs, Pt.cells, Pt.slots] at X' e1 e2 h1 h2 h3 st hcl
    subst h1; subst h2; subst h3
    exact Or.inr ⟨q, (T.setVm vm₁).calling g' mk (Value.ref b :: As).toArray, t, U', L, E, ce, hT, X', hL, e1, e2, hq, hce, hcv, vx_cls hW₁ hcl, st⟩
theorem vx_runSX {hh : List (Nat × Nat × Nat × Nat)} (S : CallFix p m c cc nL s args Ts own) (hM : vx_Met l y ws rm Pc Qc XC mc ms free) (cw : vx_CSW R s args own index y bytes maxL ret hh ws rm mc ms n) (hp : PreS s H Pc As)
    (hg : g.method = m) (hn : As.length = n) (hsize : g.locals.size = nL) (hstack : g.stack = As.reverse ++ rest) (hW : 2 * g.monitorRoom + (rest.map fun v => v.category).sum ≤ 8) (hdg : decode cc g.pc = .ok (.invokestatic index, 3)) (hf : cells + mc ≤ R.cells ∧ slots + ms ≤ R.slots) :
    vx_Run p l e R s m args below meth c H locs cells slots mc ms g rest (Qc As.toArray) XC free := by
  obtain ⟨⟨hrc, hrs, hfr, hlo, hws, hcw⟩, hcode, hini, hy, hlen, hl, hstt⟩ := cw
  have hK : vx_Back l R p e below s args y 3 8 (PreOf R mc ms Pc) (PostOf Qc mc ms free) (vx_Post XC mc ms free) := vx_backW (hh := hh) (bytes := bytes) (maxL := maxL) (ret := ret) hM hp.1 hrc hrs hfr hlo hws hcw (fun a' U hW => word_at hW (Or.inl (by first | rfl | simp [Cond.onTables, Cond.keeps, Cond.steady])) hini)
  obtain ⟨hx, hb, hml, ho, -⟩ := S
  intro T hT X
  rcases vx_callSX X hx (hh := hh) (bytes := bytes) (maxL := maxL) (ret := ret) ho hl hstt hini hcode hy hK hg (hsize.trans hml.symm) (argsL := As) (rest := rest) (fun sig h => hn.trans (hlen sig h)) hstack hW (by rw [hb]; exact hdg)
    (fun vm₁ hW₁ => ⟨hf.1, hf.2, hp.2 (T.setVm vm₁) hT hW₁⟩) with ⟨v, vm₁, ⟨U', l2, c2, s2⟩, hW₁, X', ⟨g', mk, t, L, e1, e2, hq, h1, hL, h2, h3⟩, st⟩ | ⟨q, vm₁, ⟨U', l2, c2, s2⟩, hW₁, X', ⟨g', mk, t, L, E, ce, e1, e2, hq, hce, hcv, hcl, h1, hL, h2, h3⟩, st⟩
  · dsimp only [Pt.U, Pt.locs, Pt.cells, Pt.slots] at X' e1 e2 h1 h2 h3 st
    subst h1; subst h2; subst h3
    exact Or.inl ⟨v, (T.setVm vm₁).calling g' mk As.toArray, t, U', L, hT, X', hL, e1, e2, hq, st⟩
  · dsimp only [Pt.U, Pt.locs, Pt.cells, Pt.slots] at X' e1 e2 h1 h2 h3 st hcl
    subst h1; subst h2; subst h3
    exact Or.inr ⟨q, (T.setVm vm₁).calling g' mk As.toArray, t, U', L, E, ce, hT, X', hL, e1, e2, hq, hce, hcv, vx_cls hW₁ hcl, st⟩
end
end VXH
theorem vx_ofWH {l : Launch} {y : MethodName} {ws ws' : List Cond} {rm : Room} {Pc : Array Value → State → Prop} {Qc : Array Value → State → Outcome → State → Prop} {XC : String → State → State → Prop} {mc ms : Nat} {free : Addr → Prop} {cc : ByteArray} {maxL : Nat} {ret : Option FieldType} {hh : List (Nat × Nat × Nat × Nat)}
    (hy : plainName y.cls = true) (hw : ws = Cond.codeWith y cc maxL ret hh :: ws')
    (body : ∀ p e s m args below meth c s₁, BodyLoose p l y (headSpec ws rm) cc maxL ret e s m args below meth c s₁ → c.maxLocals = maxL → Pc args s →
      W p l e (headSpec ws rm).room s m args below meth c s.heap [] 0 0 (vx_MQ below Qc XC args s mc ms free) (entryFrame m args maxL)) : vx_Met l y ws rm Pc Qc XC mc ms free := by
  refine MetFree.of_bodyS (code := cc) (maxLocals := maxL) (ret := ret) hy ?_ ?_
  · intro args s m h hn
    obtain ⟨m9, meth, c, hn9, h1, h2, h3, h4, -, h5, h6, -⟩ := Cond.codeWith_spec (atoms_spec (ws := ws) h _ (by rw [hw]; exact List.mem_cons_self))
    cases hn.symm.trans hn9
    exact ⟨meth, c, h1, h2, h3, h4, h5, h6⟩
  · intro p e s m args below meth c s₁ B hml hP _
    have hh0 : s₁.heap = s.heap := by rw [B.state]; rfl
    obtain ⟨t, a1, o, b1, b2, b3⟩ := body p e s m args below meth c s₁ B hml hP s₁ hh0 (Stand.of_body B)
    exact ⟨t, o, a1, b1, b2, b3⟩
/-! ===== END ===== -/
/-! ===== BEGIN what the machine throws by itself, no traces kept ===== -/
section VXM
set_option maxHeartbeats 1000000 in
/-- the machine throws cls with the message text, no traces kept: from its note over the frame g to 'throwing' over the same frame (follows the proofs of Stand.vmThrowsMessage, Shelf/KitTracedVmS.lean, and Stand.throwsMessageColdBareV, StandMessageColdV.lean, without the step out of the frame) -/
theorem vx_vmAt {p : Program} {l : Launch} {e : Env} {R : Room} {s : State} {m₀ : MethodId} {args : Array Value} {below : List Frame} {meth : Method} {c : Code} {W : State} {locs : List Loc} {cells slots : Nat}
    (X : Stand p l e R s m₀ args below meth c W locs cells slots) (hexec : p.tables.exec = Jvm.exec) (htr : e.platform.stackTraces = false) {cls : String} {names : List String} {text : String}
    (hcls : Bundle.fit cls = true) (hnames : ∀ n ∈ names, Bundle.fit n = true) (hsoe : (cls == "java/lang/StackOverflowError") = false) (hoom : (cls == "java/lang/OutOfMemoryError") = false)
    (h : ∀ a ∈ Bundle.messageArmAtoms cls names, a.before args s = true)
    (hlocs : ∀ x ∈ locs, ∀ cell, s.heap[x.base]? = some cell → cell.vm.isStatics = false)
    (htext : (text == notModelled) = false) (hlimit : ¬ (stringBytes (stringToUtf16 text)).size > e.platform.arrayLengthLimit) (hheap : ¬ (stringBytes (stringToUtf16 text)).size * componentBytes .byte > e.platform.maxHeapBytes)
    {g : JFrame} (hg : g.method = m₀) (hsize : g.locals.size = c.maxLocals)
    (hRframes : names.length + 4 < R.frames) (hRlocals : 2 * g.monitorRoom + (g.stack.map fun v => v.category).sum + 10240 ≤ R.locals) (hshort : 13 * names.length + 55 ≤ 10240)
    (hRcells : cells + 3 ≤ R.cells) (hRslots : slots + ((stringBytes (stringToUtf16 text)).size + 4 + 6) ≤ R.slots) (hlocks : meth.locks = false) :
    ∃ (S : State) (q : Addr) (ce : Cell), (∀ target, Steps p.tables e below ((S.setTop g).pushFrame (.throwing q)) target → Steps p.tables e below ((W.setTop g).pushFrame (.throwNew cls (some text) none)) target) ∧
      Stand p l e R s m₀ args below meth c S locs (cells + 3) (slots + ((stringBytes (stringToUtf16 text)).size + 4 + 6)) ∧ S.heap[q]? = some ce ∧ s.vm.findClass cls = some ce.cls ∧ ce.vm = .none := by
  have howns : e.platform.frameOwnsMonitors = true := by rw [X.admits.platform]
  have hfin : e.platform.finalization = false := by rw [X.admits.platform]
  have hpl : e.platform.magicAccessors = ({} : Platform).magicAccessors := by rw [X.admits.platform]
  have a : ∀ x, x ∈ Bundle.messageArmAtoms cls names → x.holds args s none s [] = true := fun x hx => h x hx
  obtain ⟨T, Z0, L, -, Y⟩ := ThrowableC.of_atoms (args := args) howns hfin hpl (fun x hx => h x (by simp [Bundle.messageArmAtoms, hx]))
  obtain ⟨Z, M, LZ, LM, hnZ⟩ := Init0T.ofS_atoms (args := args) hpl L Y (fun x hx => h x (by simp [Bundle.messageArmAtoms, hx]))
  obtain ⟨P1, Ps, hlen, L1, hL, hP1m, hlink1, hlink⟩ := Bundle.chainS (args := args) hpl hnZ names cls hcls hnames (fun x hx => h x (by simp [Bundle.messageArmAtoms, hx]))
  obtain ⟨Zs, LZs, hn4, hfitv, hfitc⟩ := StringT.of_atoms (args := args) (fun x hx => h x (by simp [Bundle.messageArmAtoms, hx]))
  have hfound : s.vm.findClass cls = some P1.m.cls := findClass_of_methodNamed hP1m
  obtain ⟨c1, kX, hc1, hk, hord, -, -, hn6⟩ := Cond.instantiable_spec (a (.instantiable cls 6) (by simp [Bundle.messageArmAtoms]))
  cases Option.some.inj (hc1.symm.trans hfound)
  have hinit := Cond.initialized_spec hfound hk (a (.initialized cls) (by simp [Bundle.messageArmAtoms]))
  have hctor : kX.findMethod "<init>" "(Ljava/lang/String;)V" = some P1.m.idx := findMethod_of_methodNamed hP1m hk
  have hsel0 : selectMethod e.platform s.vm P1.m.cls T.fill0 = .method T.fill0 := by
    obtain ⟨c2, r2, m2, q1, q2, q3, q4, -⟩ := Cond.selects_spec (a (.selects cls Bundle.tFill0 Bundle.tFill0) (by simp [Bundle.messageArmAtoms]))
    cases Option.some.inj (q1.symm.trans hfound)
    cases Option.some.inj (q2.symm.trans (State.methodFound?_of_named Y.fill0 (by decide)))
    cases Option.some.inj (q3.symm.trans Y.fill0)
    rw [Launch.admits_selectMethod X.admits]; exact q4
  have hselF : selectMethod e.platform s.vm P1.m.cls T.fill = .method T.fill := by
    obtain ⟨c2, r2, m2, q1, q2, q3, q4, -⟩ := Cond.selects_spec (a (.selects cls Bundle.tFill Bundle.tFill) (by simp [Bundle.messageArmAtoms]))
    cases Option.some.inj (q1.symm.trans hfound)
    cases Option.some.inj (q2.symm.trans (State.methodFound?_of_named Y.fill (by decide)))
    cases Option.some.inj (q3.symm.trans Y.fill)
    rw [Launch.admits_selectMethod X.admits]; exact q4
  obtain ⟨cellS0, hcS0, hiss⟩ := Y.statics
  obtain ⟨u0, hu0⟩ := Cond.staticRefV Y.unassigned L.unassignedStatic L.statics hcS0 hiss (a (.isRef (.static Bundle.tN "UNASSIGNED_STACK" Bundle.steD)) (by simp [Bundle.messageArmAtoms]))
  obtain ⟨sen, hsen⟩ := Cond.staticRefV Y.sentinel L.sentinelStatic L.statics hcS0 hiss (a (.isRef (.static Bundle.tN "SUPPRESSED_SENTINEL" Bundle.listD)) (by simp [Bundle.messageArmAtoms]))
  obtain ⟨ci198, i198, fB, hk198, hg198, ha198, hsB, -, hnB, htB, hffB⟩ := Cond.ownField (t := .object "java/lang/Object") Y.found L.cls (by decide +kernel) (a (.fieldLink Bundle.tN 198 Bundle.tN "backtrace" "Ljava/lang/Object;") (by simp [Bundle.messageArmAtoms])) (a (.lays Bundle.tN Bundle.tN "backtrace" "Ljava/lang/Object;") (by simp [Bundle.messageArmAtoms])) e.platform hpl
  obtain ⟨cellS, hcS', heS, -, hkeep⟩ := X.same.2.2.2.2.2 T.aS cellS0 hcS0
  have hcellS : W.heap[T.aS]? = some cellS := hcS'
  have hout' : ∀ i, (⟨T.aS, i⟩ : Loc) ∉ locs := fun i hmem => by
    have := hlocs _ hmem cellS0 hcS0
    rw [hiss] at this; cases this
  have hknownS : cellS.vm ≠ .unknown := by
    rw [heS]; intro hu
    rw [show cellS0.vm = .unknown from hu] at hiss
    cases hiss
  have hvU : cellS.slots[T.fUnassigned.slot]? = some u0.v := by rw [hkeep _ (hout' _)]; exact hu0
  have hvSen : cellS.slots[T.fSentinel.slot]? = some sen.v := by rw [hkeep _ (hout' _)]; exact hsen
  obtain ⟨iM, hffM⟩ := Y.msg
  obtain ⟨tyC, dC, hdC, hdnC⟩ := Cond.laysAt hfound hk Y.cause (a (.lays cls Bundle.tN "cause" "Ljava/lang/Throwable;") (by simp [Bundle.messageArmAtoms]))
  obtain ⟨tyS, dS, hdS, hdnS⟩ := Cond.laysAt hfound hk Y.stack (a (.lays cls Bundle.tN "stackTrace" Bundle.steD) (by simp [Bundle.messageArmAtoms]))
  obtain ⟨tyP, dP, hdP, hdnP⟩ := Cond.laysAt hfound hk Y.supp (a (.lays cls Bundle.tN "suppressedExceptions" Bundle.listD) (by simp [Bundle.messageArmAtoms]))
  obtain ⟨tyM, dM, hdM, hdnM⟩ := Cond.laysAt hfound hk hffM (a (.lays cls Bundle.tN "detailMessage" "Ljava/lang/String;") (by simp [Bundle.messageArmAtoms]))
  obtain ⟨tyB, dB, hdB, hdnB⟩ := Cond.laysAt hfound hk hffB (a (.lays cls Bundle.tN "backtrace" "Ljava/lang/Object;") (by simp [Bundle.messageArmAtoms]))
  have bC := Cond.laysApart hdB hdC hdnB hdnC (by rw [hnB, Y.causeName]; decide)
  have bS := Cond.laysApart hdB hdS hdnB hdnS (by rw [hnB, Y.stackName]; decide)
  have bP := Cond.laysApart hdB hdP hdnB hdnP (by rw [hnB, Y.suppName]; decide)
  have hbk : ((preparedCellV T.toThrowableT (freshCell P1.m.cls kX) (W.heap.size + 2) u0 sen).withEntry W.cur).slots[fB.slot]? = some .null := by
    have := fresh_default (c := P1.m.cls) tyB
    rw [htB] at this
    simpa [preparedCellV, Cell.setSlot, Cell.withEntry, Array.getElem?_setIfInBounds, bC, bS, bP, bC.symm, bS.symm, bP.symm, defaultValue] using this
  have tkC := Takes.of_laid (v := .ref (W.heap.size + 2)) hk hord tyC (by rw [Y.causeType]; rfl)
  have tkS := Takes.of_laid (v := u0.v) hk hord tyS (by rw [Y.stackType]; exact fits_refV_array _ u0)
  have tkP := Takes.of_laid (v := sen.v) hk hord tyP (by rw [Y.suppType]; exact fits_refV_object _ sen)
  have tkM := Takes.of_laid (v := .ref (W.heap.size + 1)) hk hord tyM (by rw [Y.msgType]; rfl)
  have hskip : SkipFacts T e.platform s (fun u => u) u0 ((preparedCellV T.toThrowableT (freshCell P1.m.cls kX) (W.heap.size + 2) u0 sen).withEntry W.cur) := ⟨{ ci198 := ci198, i198 := i198, fBack := fB }, ⟨hk198, hg198, ha198, hsB⟩, hbk, fun _ _ => rfl⟩
  have h0 : At W g.method c below := by rw [hg]; exact X.here
  obtain ⟨hbeyond, hfreeW⟩ := X.vmMayThrow hsize (.throwNew cls (some text) none) (fun f hf => by cases hf) rfl hRlocals
  have hfr' : W.frames.length + Ps.length + 4 < (e.platform.stackLimits W.me).1 := by have := X.framesAbove hRframes; omega
  have hwd' : (stackUse (.java g :: W.frames.tail)).2 + 13 * Ps.length + 55 ≤ (e.platform.stackLimits W.me).2 := by have := X.stackAbove hsize (K := 13 * Ps.length + 55) (by omega); omega
  have hslots : W.slotsUsed + (stringBytes (stringToUtf16 text)).size + Zs.kS.instanceTypes.size + kX.instanceTypes.size ≤ e.platform.maxSlots := by
    have := X.slotsAbove hRslots
    rw [hn4, hn6]
    omega
  obtain ⟨vm', hW', st⟩ := Steps.vmThrowsMessageColdByV p (s₀ := s) (S := W) (g := g) h0 hexec T L Z LZ M LM X.warmed (t := W.cur) rfl Zs LZs P1 L1 Ps hL hlink1 hlink hsoe hoom hfound hk hinit hord hctor
    (Launch.admits_hotImplicitExceptions X.admits) hbeyond hfreeW htext hlimit hheap (X.cellsAbove hRcells) hslots (hfitv _) (hfitc _)
    (Nn := fun u => u) heapOnly_id (fun _ _ => rfl) (fun _ => rfl) (fun u x y => setCell_twice _ _ _ _) (fun _ => Nat.le_refl _) (cN := ((preparedCellV T.toThrowableT (freshCell P1.m.cls kX) (W.heap.size + 2) u0 sen).withEntry W.cur))
    hsel0 hcellS hknownS hvU tkS (fun _ hu => hu) (fun _ hu => hu) rfl rfl rfl (by simp [preparedCellV, Cell.setSlot, Cell.withEntry]) hskip (fun _ _ hA hW _ hroom _ hrest => L.nativeOff p htr hA hW hroom hrest) hselF hvSen tkC tkP tkM Y.objLocals rfl hfr' hwd'
  rw [plainBareV_eq T.toThrowableT (W.heap.size + 2) u0 sen (.ref (W.heap.size + 1)) W.cur rfl rfl] at st
  obtain ⟨-, -, w3, w4, -, -, -⟩ := withThrown_facts e.platform W Zs text P1.m.cls kX
  have X3 := ((X.pushed (bytesOf Zs.cB (stringToUtf16 text))).pushed (stringAt Zs.cS Zs.kS Zs.fv Zs.fc (stringToUtf16 text) W.heap.size)).pushed (freshCell P1.m.cls kX)
  rw [← withString_eq] at X3
  have X4 := X3.noted hW'
  have ha : (W.heap.size + 2) < ((withThrown W Zs text P1.m.cls kX).setVm vm').heap.size := by show _ < (withThrown W Zs text P1.m.cls kX).heap.size; rw [w3]; omega
  have hcell : ((withThrown W Zs text P1.m.cls kX).setVm vm').heap[(W.heap.size + 2)]? = some (freshCell P1.m.cls kX) := w4
  have X5 := ((((X4.stored hcell T.fCause.slot (.ref (W.heap.size + 2))).storedAgain ha T.fStack.slot u0.v).storedAgain ha T.fSupp.slot sen.v).storedAgain ha T.fStack.slot u0.v).storedAgain ha T.fMsg.slot (.ref (W.heap.size + 1))
  obtain ⟨g₁, hfrM⟩ := X5.frames_eq
  have hU : ((((withThrown W Zs text P1.m.cls kX).setVm vm').setCell (W.heap.size + 2) (plainBareV T.toThrowableT (freshCell P1.m.cls kX) (W.heap.size + 2) u0 sen (.ref (W.heap.size + 1)))).setTop g).pushFrame (.throwing (W.heap.size + 2)) = (((withThrown W Zs text P1.m.cls kX).setVm vm').setCell (W.heap.size + 2) (plainBareV T.toThrowableT (freshCell P1.m.cls kX) (W.heap.size + 2) u0 sen (.ref (W.heap.size + 1)))).setFrames (.throwing (W.heap.size + 2) :: .java g :: below) := by
    rw [State.pushFrame, State.frames_setTop _ hfrM, State.setTop_of_frames _ hfrM, State.setFrames_setFrames]
  have b1 : (bytesOf Zs.cB (stringToUtf16 text)).slots.size = (stringBytes (stringToUtf16 text)).size := by
    rw [(Cell.writeAll_facts _ _).2.2]; simp [bytes0]
  have b2 : (stringAt Zs.cS Zs.kS Zs.fv Zs.fc (stringToUtf16 text) W.heap.size).slots.size = 4 := by simp [string0, Cell.setSlot, hn4]
  have b3 : (freshCell P1.m.cls kX).slots.size = 6 := by simp [hn6]
  rw [b1, b2, b3] at X5
  have e9 : slots + (stringBytes (stringToUtf16 text)).size + 4 + 6 = slots + ((stringBytes (stringToUtf16 text)).size + 4 + 6) := by omega
  rw [e9] at X5
  simp only [List.append_assoc, List.cons_append, List.nil_append] at X5
  refine ⟨((withThrown W Zs text P1.m.cls kX).setVm vm').setCell (W.heap.size + 2) (plainBareV T.toThrowableT (freshCell P1.m.cls kX) (W.heap.size + 2) u0 sen (.ref (W.heap.size + 1))), W.heap.size + 2, _, fun target ht => st _ (by rw [X.tail, ← hU]; exact ht),
    X5.forget (fun y hy => ?_), heapAt_setCell_self _ ha, hfound, rfl⟩
  simp only [List.mem_cons, List.not_mem_nil, or_false] at hy
  have hge : s.heap.size ≤ W.heap.size := X.same.2.1
  rcases hy with rfl | rfl | rfl | rfl | rfl <;> exact Nat.le_trans hge (Nat.le_add_right _ 2)
set_option maxHeartbeats 1000000 in
/-- the machine throws NullPointerException, no traces kept: from its note over the frame g to 'throwing' over the same frame (follows the proof of Stand.vmThrowsNpe, Shelf42/KT2.lean; throwsNpeColdBareVAt, Shelf42/NT91.lean, called) -/
theorem vx_npeAt {p : Program} {l : Launch} {e : Env} {R : Room} {s : State} {m₀ : MethodId} {args : Array Value} {below : List Frame} {meth : Method} {c : Code} {W : State} {locs : List Loc} {cells slots : Nat}
    (X : Stand p l e R s m₀ args below meth c W locs cells slots) (hexec : p.tables.exec = Jvm.exec) (htr : e.platform.stackTraces = false) {n : Nat}
    (h : ∀ a ∈ Bundle.npeArmAtoms n, a.before args s = true)
    (hlocs : ∀ x ∈ locs, ∀ cell, s.heap[x.base]? = some cell → cell.vm.isStatics = false)
    {g : JFrame} (hg : g.method = m₀) (hsize : g.locals.size = c.maxLocals)
    (hRframes : 7 < R.frames) (hRlocals : 2 * g.monitorRoom + (g.stack.map fun v => v.category).sum + 10240 ≤ R.locals)
    (hRcells : cells + 1 ≤ R.cells) (hRslots : slots + n ≤ R.slots) (hlocks : meth.locks = false) :
    ∃ (S : State) (q : Addr) (ce : Cell), (∀ target, Steps p.tables e below ((S.setTop g).pushFrame (.throwing q)) target → Steps p.tables e below ((W.setTop g).pushFrame (.throwNew "java/lang/NullPointerException" none none)) target) ∧
      Stand p l e R s m₀ args below meth c S locs (cells + 1) (slots + n) ∧ S.heap[q]? = some ce ∧ s.vm.findClass "java/lang/NullPointerException" = some ce.cls ∧ ce.vm = .none := by
  have howns : e.platform.frameOwnsMonitors = true := by rw [X.admits.platform]
  have hfin : e.platform.finalization = false := by rw [X.admits.platform]
  have hpl : e.platform.magicAccessors = ({} : Platform).magicAccessors := by rw [X.admits.platform]
  have hpl2 : e.platform.arrayCloneIsPublic = true := by rw [X.admits.platform]
  have a' : ∀ x, x ∈ Bundle.npeArmAtoms n → x.holds args s none s [] = true := fun x hx => h x hx
  obtain ⟨T, Z, L, LZ, Y⟩ := ThrowableC.of_atoms (args := args) howns hfin hpl (fun x hx => h x (by simp [Bundle.npeArmAtoms, hx]))
  obtain ⟨N, LN, hcN, hnNF, hordN, hffS⟩ := NpeC.of_atoms (args := args) hpl hpl2 L Y (fun x hx => h x (by simp [Bundle.npeArmAtoms, hx]))
  obtain ⟨P1, L1, hP1m, hP1s⟩ := PassC.of_atoms (args := args) (s := s) hpl (X := Bundle.nN) (Y := Bundle.rN) (by decide) (by decide) LibCode.NullPointerException.Init0.at_0 LibCode.NullPointerException.Init0.at_1 LibCode.NullPointerException.Init0.at_4 (fun x hx => h x (by simp [Bundle.npeArmAtoms, hx]))
  obtain ⟨PR, LR, hPRm, hPRs⟩ := PassC.of_atoms (args := args) (s := s) hpl (X := Bundle.rN) (Y := Bundle.eN) (by decide) (by decide) LibCode.RuntimeException.Init0.at_0 LibCode.RuntimeException.Init0.at_1 LibCode.RuntimeException.Init0.at_4 (fun x hx => h x (by simp [Bundle.npeArmAtoms, hx]))
  obtain ⟨PE, LEx, hPEm, hPEs⟩ := PassC.of_atoms (args := args) (s := s) hpl (X := Bundle.eN) (Y := Bundle.tN) (by decide) (by decide) LibCode.Exception.Init0.at_0 LibCode.Exception.Init0.at_1 LibCode.Exception.Init0.at_4 (fun x hx => h x (by simp [Bundle.npeArmAtoms, hx]))
  have hfound : s.vm.findClass Bundle.nN = some P1.m.cls := findClass_of_methodNamed hP1m
  have ecls : N.cN = P1.m.cls := Option.some.inj (hcN.symm.trans hfound)
  have hk : s.vm.classes[P1.m.cls]? = some N.kN := by rw [← ecls]; exact LN.cls
  have hinit := Cond.initialized_spec hfound hk (a' (.initialized Bundle.nN) (by simp [Bundle.npeArmAtoms]))
  have hctor : N.kN.findMethod "<init>" "()V" = some P1.m.idx := findMethod_of_methodNamed hP1m hk
  obtain ⟨c1, k1, hc1, hk1, -, -, -, hn⟩ := Cond.instantiable_spec (a' (.instantiable Bundle.nN n) (by simp [Bundle.npeArmAtoms]))
  cases Option.some.inj (hc1.symm.trans hfound)
  cases Option.some.inj (hk1.symm.trans hk)
  have hfsz : (freshCell P1.m.cls N.kN).slots.size = n := by simp [hn]
  have hlink1 : P1.sup = PR.m := Option.some.inj (hP1s.symm.trans hPRm)
  have hlinkR : PR.sup = PE.m := Option.some.inj (hPRs.symm.trans hPEm)
  have hlinkE : PE.sup = Z.m T.toThrowableT := Option.some.inj (hPEs.symm.trans Y.init0)
  have hLs : ∀ P, P ∈ [PR, PE] → P.Links0 e.platform s := fun P hP => by
    simp only [List.mem_cons, List.not_mem_nil, or_false] at hP
    rcases hP with rfl | rfl
    · exact LR
    · exact LEx
  have hsel0 : selectMethod e.platform s.vm P1.m.cls T.fill0 = .method T.fill0 := by
    obtain ⟨c2, r2, m2, q1, q2, q3, q4, -⟩ := Cond.selects_spec (a' (.selects Bundle.nN Bundle.tFill0 Bundle.tFill0) (by simp [Bundle.npeArmAtoms]))
    cases Option.some.inj (q1.symm.trans hfound)
    cases Option.some.inj (q2.symm.trans (State.methodFound?_of_named Y.fill0 (by decide)))
    cases Option.some.inj (q3.symm.trans Y.fill0)
    rw [Launch.admits_selectMethod X.admits]; exact q4
  have hselF : selectMethod e.platform s.vm P1.m.cls T.fill = .method N.fill := by
    obtain ⟨c2, r2, m2, q1, q2, q3, q4, -⟩ := Cond.selects_spec (a' (.selects Bundle.nN Bundle.tFill Bundle.nFill) (by simp [Bundle.npeArmAtoms]))
    cases Option.some.inj (q1.symm.trans hfound)
    cases Option.some.inj (q2.symm.trans (State.methodFound?_of_named Y.fill (by decide)))
    cases Option.some.inj (q3.symm.trans hnNF)
    rw [Launch.admits_selectMethod X.admits]; exact q4
  obtain ⟨cellS0, hcS0, hiss⟩ := Y.statics
  obtain ⟨u0, hu0⟩ := Cond.staticRefV Y.unassigned L.unassignedStatic L.statics hcS0 hiss (a' (.isRef (.static Bundle.tN "UNASSIGNED_STACK" Bundle.steD)) (by simp [Bundle.npeArmAtoms]))
  obtain ⟨sen, hsen⟩ := Cond.staticRefV Y.sentinel L.sentinelStatic L.statics hcS0 hiss (a' (.isRef (.static Bundle.tN "SUPPRESSED_SENTINEL" Bundle.listD)) (by simp [Bundle.npeArmAtoms]))
  obtain ⟨ci198, i198, fB, hk198, hg198, ha198, hsB, -, hnB, htB, hffB⟩ := Cond.ownField (t := .object "java/lang/Object") Y.found L.cls (by decide +kernel) (a' (.fieldLink Bundle.tN 198 Bundle.tN "backtrace" Bundle.objD) (by simp [Bundle.npeArmAtoms])) (a' (.lays Bundle.tN Bundle.tN "backtrace" Bundle.objD) (by simp [Bundle.npeArmAtoms])) e.platform hpl
  obtain ⟨cellS, hcS', heS, -, hkeep⟩ := X.same.2.2.2.2.2 T.aS cellS0 hcS0
  have hcellS : W.heap[T.aS]? = some cellS := hcS'
  have hout' : ∀ i, (⟨T.aS, i⟩ : Loc) ∉ locs := fun i hmem => by
    have := hlocs _ hmem cellS0 hcS0
    rw [hiss] at this; cases this
  have hknownS : cellS.vm ≠ .unknown := by
    rw [heS]; intro hu
    rw [show cellS0.vm = .unknown from hu] at hiss
    cases hiss
  have hvU : cellS.slots[T.fUnassigned.slot]? = some u0.v := by rw [hkeep _ (hout' _)]; exact hu0
  have hvSen : cellS.slots[T.fSentinel.slot]? = some sen.v := by rw [hkeep _ (hout' _)]; exact hsen
  obtain ⟨tyC, dC, hdC, hdnC⟩ := Cond.laysAt hfound hk Y.cause (a' (.lays Bundle.nN Bundle.tN "cause" "Ljava/lang/Throwable;") (by simp [Bundle.npeArmAtoms]))
  obtain ⟨tyS, dS, hdS, hdnS⟩ := Cond.laysAt hfound hk Y.stack (a' (.lays Bundle.nN Bundle.tN "stackTrace" Bundle.steD) (by simp [Bundle.npeArmAtoms]))
  obtain ⟨tyP, dP, hdP, hdnP⟩ := Cond.laysAt hfound hk Y.supp (a' (.lays Bundle.nN Bundle.tN "suppressedExceptions" Bundle.listD) (by simp [Bundle.npeArmAtoms]))
  obtain ⟨tyX, dX, hdX, hdnX⟩ := Cond.laysAt hfound hk hffS (a' (.lays Bundle.nN Bundle.nN "extendedMessageState" "I") (by simp [Bundle.npeArmAtoms, Bundle.npeAtoms]))
  obtain ⟨hnX, htX⟩ := State.fieldFound?_type hffS (t := .int) (by decide +kernel)
  have xC := Cond.laysApart hdC hdX hdnC hdnX (by rw [hnX, Y.causeName]; decide)
  have xS := Cond.laysApart hdS hdX hdnS hdnX (by rw [hnX, Y.stackName]; decide)
  have xP := Cond.laysApart hdP hdX hdnP hdnX (by rw [hnX, Y.suppName]; decide)
  have hv0 : (freshCell P1.m.cls N.kN).slots[N.fState.slot]? = some (.int 0) := by
    have := fresh_default (c := P1.m.cls) tyX
    rw [htX] at this; exact this
  obtain ⟨tyB, dB, hdB, hdnB⟩ := Cond.laysAt hfound hk hffB (a' (.lays Bundle.nN Bundle.tN "backtrace" Bundle.objD) (by simp [Bundle.npeArmAtoms]))
  have bC := Cond.laysApart hdB hdC hdnB hdnC (by rw [hnB, Y.causeName]; decide)
  have bS := Cond.laysApart hdB hdS hdnB hdnS (by rw [hnB, Y.stackName]; decide)
  have bP := Cond.laysApart hdB hdP hdnB hdnP (by rw [hnB, Y.suppName]; decide)
  have bX := Cond.laysApart hdB hdX hdnB hdnX (by rw [hnB, hnX]; decide)
  have hbk : ((npeCell N.toNpeT (preparedCellV T.toThrowableT (freshCell P1.m.cls N.kN) W.heap.size u0 sen) W.cur).withEntry W.cur).slots[fB.slot]? = some .null := by
    have := fresh_default (c := P1.m.cls) tyB
    rw [htB] at this
    simpa [npeCell, preparedCellV, Cell.setSlot, Cell.withEntry, Array.getElem?_setIfInBounds, bC, bS, bP, bX, bC.symm, bS.symm, bP.symm, bX.symm, defaultValue] using this
  have tkC := Takes.of_laid (v := .ref W.heap.size) hk hordN tyC (by rw [Y.causeType]; rfl)
  have tkS := Takes.of_laid (v := u0.v) hk hordN tyS (by rw [Y.stackType]; exact fits_refV_array _ u0)
  have tkP := Takes.of_laid (v := sen.v) hk hordN tyP (by rw [Y.suppType]; exact fits_refV_object _ sen)
  have tkX := Takes.of_laid (v := .int 1) hk hordN tyX (by rw [htX]; rfl)
  have hskip : SkipFacts T e.platform s (fun u => u) u0 ((npeCell N.toNpeT (preparedCellV T.toThrowableT (freshCell P1.m.cls N.kN) W.heap.size u0 sen) W.cur).withEntry W.cur) := ⟨{ ci198 := ci198, i198 := i198, fBack := fB }, ⟨hk198, hg198, ha198, hsB⟩, hbk, fun _ _ => rfl⟩
  obtain ⟨vm', X3, st, -⟩ := X.throwsNpeColdBareVAt hexec hg hsize T L Z LZ N LN P1 L1 [PR, PE] hLs hlink1 ⟨hlinkR, hlinkE, trivial⟩ hfound hk hinit hordN hctor hsel0 hselF hcellS hknownS hvU hvSen
    hv0 xC xS xP tkC tkS tkP tkX Y.objLocals hskip (fun _ _ hA hW _ hroom _ hrest => L.nativeOff p htr hA hW hroom hrest) (by simpa using hRframes) hRlocals (by simp) hRcells (by rw [hn]; exact hRslots)
  have hlt : W.heap.size < ((W.pushCell (freshCell P1.m.cls N.kN)).setVm vm').heap.size := by
    show W.heap.size < (W.pushCell (freshCell P1.m.cls N.kN)).heap.size
    rw [State.heap_size_pushCell]; omega
  rw [hfsz] at X3
  obtain ⟨g₁, hfrM⟩ := X3.frames_eq
  have hU : ((((W.pushCell (freshCell P1.m.cls N.kN)).setVm vm').setCell W.heap.size (npeBareV T.toThrowableT N.toNpeT (freshCell P1.m.cls N.kN) W.heap.size u0 sen)).setTop g).pushFrame (.throwing W.heap.size) = (((W.pushCell (freshCell P1.m.cls N.kN)).setVm vm').setCell W.heap.size (npeBareV T.toThrowableT N.toNpeT (freshCell P1.m.cls N.kN) W.heap.size u0 sen)).setFrames (.throwing W.heap.size :: .java g :: below) := by
    rw [State.pushFrame, State.frames_setTop _ hfrM, State.setTop_of_frames _ hfrM, State.setFrames_setFrames]
  refine ⟨_, W.heap.size, _, fun target ht => st.trans (by rw [← hU]; exact ht), X3.forget (fun y hy => ?_), heapAt_setCell_self _ hlt, hfound, rfl⟩
  simp only [List.mem_cons, List.not_mem_nil, or_false] at hy
  have hge : s.heap.size ≤ W.heap.size := X.same.2.1
  rcases hy with rfl | rfl | rfl | rfl | rfl <;> exact hge
/-- the words of a machine's NullPointerException, but the four that speak of the heap -/
def vx_atN (n : Nat) : List Cond := (Bundle.npeArmAtoms n).filter vx_no
/-- the words of a machine's throw with a message, but the four that speak of the heap -/
def vx_atM (X : String) (names : List String) : List Cond := (Bundle.messageArmAtoms X names).filter vx_no
section
variable {p : Program} {l : Launch} {e : Env} {R : Room} {s : State} {m : MethodId} {args : Array Value} {below : List Frame} {meth : Method} {c : Code} {H : Heap} {locs : List Loc} {cells slots : Nat}
/-- a frame seen from a rebased start, seen from the first start again -/
theorem vx_back9 {T S : State} {R' : Room} {k n : Nat} (X : Stand p l e R s m args below meth c T locs cells slots) (Y : Stand p l e R' ((T.setVm s.vm).setFrames (.invoking m args :: below)) m args below meth c T [] 0 0) (Z : Stand p l e R' ((T.setVm s.vm).setFrames (.invoking m args :: below)) m args below meth c S [] k n) :
    Stand p l e R s m args below meth c S locs (cells + k) (slots + n) := by
  have hW0 : s.WarmedH ((T.setVm s.vm).setFrames (.invoking m args :: below)).vm := State.WarmedH.refl s
  refine { admits := X.admits, cas := X.cas, clock := X.clock, frames := X.frames, room := X.room, hears := X.hears, method := X.method, code := X.code, here := Z.here, tail := Z.tail, warmed := State.WarmedH.trans hW0 Z.warmed, limits := Z.limits.trans (Y.limits.symm.trans X.limits), bytes := Z.bytes.trans (Y.bytes.symm.trans X.bytes), same := ?_ }
  obtain ⟨e1, e2⟩ := Z.same
  rw [State.setFrames_setFrames] at e1
  have h2 : (T.setVm s.vm).sameButNew (S.setVm s.vm) [] k n := ⟨e1, e2⟩
  have h3 := X.same.trans h2
  rw [List.append_nil] at h3
  exact h3
/-- from the machine's note that E is thrown here with this text -/
def vx_Note (p : Program) (l : Launch) (e : Env) (R : Room) (s : State) (m : MethodId) (args : Array Value) (below : List Frame) (meth : Method) (c : Code) (H : Heap) (locs : List Loc) (cells slots : Nat) (Q : State → Prop) (g : JFrame) (E text : String) : Prop :=
  ∀ T : State, T.heap = H → Stand p l e R s m args below meth c T locs cells slots → ∃ t, Steps p.tables e below ((T.setTop g).pushFrame (.throwNew E (some text) none)) t ∧ Q t
theorem vx_vm {pc : Nat} {ls : Array Slot} {rest : List Value} {Q : State → Prop} (hexec : p.tables.exec = Jvm.exec) (hl : l.stackTraces = false) {cls text : String} {names : List String} {nb : Nat} {A : Nat → Prop}
    (hcls : Bundle.fit cls = true) (hnames : ∀ n ∈ names, Bundle.fit n = true) (hsoe : (cls == "java/lang/StackOverflowError") = false) (hoom : (cls == "java/lang/OutOfMemoryError") = false)
    (hat : ∀ w ∈ vx_atM cls names, w.before args s = true) (hgood : ∀ w ∈ vx_atM cls names, vx_ot w = true)
    (hU : vx_Zq Bundle.tN "UNASSIGNED_STACK" Bundle.steD A s s.heap) (hN : vx_Zq Bundle.tN "SUPPRESSED_SENTINEL" Bundle.listD A s s.heap) (hS : va_S A s.heap H locs) (hsize : ls.size = c.maxLocals)
    (htext : (text == notModelled) = false) (hnb : (stringBytes (stringToUtf16 text)).size ≤ nb) (hnb1 : nb ≤ 1000)
    (hRframes : names.length + 4 < R.frames) (hRlocals : (rest.map fun v => v.category).sum + 10240 ≤ R.locals) (hshort : 13 * names.length + 55 ≤ 10240) (hRcells : cells + 3 ≤ R.cells) (hRslots : slots + (nb + 10) ≤ R.slots) (hlocks : meth.locks = false)
    (k : ∀ (H1 : Heap) (q9 : Addr) (ce : Cell), H.size ≤ H1.size → (∀ q : Nat, q < H.size → H1[q]? = H[q]?) → va_S A s.heap H1 locs → H1[q9]? = some ce → ce.vm = .none → s.vm.findClass cls = some ce.cls → vx_W p l e R s m args below meth c H1 locs (cells + 3) (slots + (nb + 10)) Q (F0 m pc ls rest) q9) :
    vx_Note p l e R s m args below meth c H locs cells slots Q (F0 m pc ls rest) cls text := by
  intro T hT X
  have htr : e.platform.stackTraces = false := (show e.platform.stackTraces = l.stackTraces by rw [X.admits.platform]).trans hl
  have Y := vx_rebase X (R' := { frames := R.frames, locals := R.locals, cells := 3, slots := nb + 10 }) (Nat.le_refl _) (Nat.le_refl _) hRcells hRslots
  have hhp : ((T.setVm s.vm).setFrames (.invoking m args :: below)).heap = H := hT
  have hW0 : s.WarmedH ((T.setVm s.vm).setFrames (.invoking m args :: below)).vm := State.WarmedH.refl s
  have hat' : ∀ w ∈ vx_atM cls names, w.before args ((T.setVm s.vm).setFrames (.invoking m args :: below)) = true := fun w hw => vx_ot_at hW0 rfl (hgood w hw) (hat w hw)
  have hU' : vx_Zq Bundle.tN "UNASSIGNED_STACK" Bundle.steD A ((T.setVm s.vm).setFrames (.invoking m args :: below)) ((T.setVm s.vm).setFrames (.invoking m args :: below)).heap := by rw [hhp]; exact vx_Zq.moved hW0.alike (hU.kept hS.2.1)
  have hN' : vx_Zq Bundle.tN "SUPPRESSED_SENTINEL" Bundle.listD A ((T.setVm s.vm).setFrames (.invoking m args :: below)) ((T.setVm s.vm).setFrames (.invoking m args :: below)).heap := by rw [hhp]; exact vx_Zq.moved hW0.alike (hN.kept hS.2.1)
  obtain ⟨S, q, ce, st, Z, hce, hcl', hv⟩ := vx_vmAt Y hexec htr (cls := cls) (names := names) (text := text) hcls hnames hsoe hoom (vx_own hat' (vx_isRefq hU'.1) (vx_isRefq hN'.1) hU'.2.word hN'.2.word) (fun x hx => nomatch hx) htext
    (by rw [Launch.admits_arrayLengthLimit X.admits]; omega) (by rw [Launch.admits_maxHeapBytes X.admits]; simp only [componentBytes]; omega)
    (g := F0 m pc ls rest) rfl hsize hRframes (by show 2 * 0 + (rest.map fun v => v.category).sum + 10240 ≤ R.locals; omega) hshort (by show 0 + 3 ≤ 3; omega) (by show 0 + (_ + 4 + 6) ≤ nb + 10; omega) hlocks
  obtain ⟨f1, f2⟩ := vx_frame Z.same
  have f1' : H.size ≤ S.heap.size := by rw [← hT]; exact f1
  have f2' : ∀ q : Nat, q < H.size → S.heap[q]? = H[q]? := fun q hq => by
    rw [← hT]
    exact f2 q (by rw [← hT] at hq; exact hq) (fun z hz => nomatch hz)
  have X5 := vx_back9 X Y Z
  have X6 : Stand p l e R s m args below meth c S locs (cells + 3) (slots + (nb + 10)) := { X5 with same := X5.same.mono (by omega) (by omega) }
  obtain ⟨t, a1, b1⟩ := k S.heap q ce f1' f2' ⟨Nat.le_trans hS.1 f1', fun q h1 h2 => (f2' q (Nat.lt_of_lt_of_le h1 hS.1)).trans (hS.2.1 q h1 h2), hS.2.2⟩ hce hv hcl' S rfl X6
  exact ⟨t, st t a1, b1⟩
/-- from the machine's note that NullPointerException is thrown here -/
def vx_NoteN (p : Program) (l : Launch) (e : Env) (R : Room) (s : State) (m : MethodId) (args : Array Value) (below : List Frame) (meth : Method) (c : Code) (H : Heap) (locs : List Loc) (cells slots : Nat) (Q : State → Prop) (g : JFrame) : Prop :=
  ∀ T : State, T.heap = H → Stand p l e R s m args below meth c T locs cells slots → ∃ t, Steps p.tables e below ((T.setTop g).pushFrame (.throwNew "java/lang/NullPointerException" none none)) t ∧ Q t
theorem vx_npe {pc : Nat} {ls : Array Slot} {rest : List Value} {Q : State → Prop} (hexec : p.tables.exec = Jvm.exec) (hl : l.stackTraces = false) {nb : Nat} {A : Nat → Prop}
    (hat : ∀ w ∈ vx_atN nb, w.before args s = true) (hgood : ∀ w ∈ vx_atN nb, vx_ot w = true)
    (hU : vx_Zq Bundle.tN "UNASSIGNED_STACK" Bundle.steD A s s.heap) (hN : vx_Zq Bundle.tN "SUPPRESSED_SENTINEL" Bundle.listD A s s.heap) (hS : va_S A s.heap H locs) (hsize : ls.size = c.maxLocals)
    (hRframes : 7 < R.frames) (hRlocals : (rest.map fun v => v.category).sum + 10240 ≤ R.locals) (hRcells : cells + 1 ≤ R.cells) (hRslots : slots + nb ≤ R.slots) (hlocks : meth.locks = false)
    (k : ∀ (H1 : Heap) (q9 : Addr) (ce : Cell), H.size ≤ H1.size → (∀ q : Nat, q < H.size → H1[q]? = H[q]?) → va_S A s.heap H1 locs → H1[q9]? = some ce → ce.vm = .none → s.vm.findClass "java/lang/NullPointerException" = some ce.cls → vx_W p l e R s m args below meth c H1 locs (cells + 1) (slots + nb) Q (F0 m pc ls rest) q9) :
    vx_NoteN p l e R s m args below meth c H locs cells slots Q (F0 m pc ls rest) := by
  intro T hT X
  have htr : e.platform.stackTraces = false := (show e.platform.stackTraces = l.stackTraces by rw [X.admits.platform]).trans hl
  have Y := vx_rebase X (R' := { frames := R.frames, locals := R.locals, cells := 1, slots := nb }) (Nat.le_refl _) (Nat.le_refl _) hRcells hRslots
  have hhp : ((T.setVm s.vm).setFrames (.invoking m args :: below)).heap = H := hT
  have hW0 : s.WarmedH ((T.setVm s.vm).setFrames (.invoking m args :: below)).vm := State.WarmedH.refl s
  have hat' : ∀ w ∈ vx_atN nb, w.before args ((T.setVm s.vm).setFrames (.invoking m args :: below)) = true := fun w hw => vx_ot_at hW0 rfl (hgood w hw) (hat w hw)
  have hU' : vx_Zq Bundle.tN "UNASSIGNED_STACK" Bundle.steD A ((T.setVm s.vm).setFrames (.invoking m args :: below)) ((T.setVm s.vm).setFrames (.invoking m args :: below)).heap := by rw [hhp]; exact vx_Zq.moved hW0.alike (hU.kept hS.2.1)
  have hN' : vx_Zq Bundle.tN "SUPPRESSED_SENTINEL" Bundle.listD A ((T.setVm s.vm).setFrames (.invoking m args :: below)) ((T.setVm s.vm).setFrames (.invoking m args :: below)).heap := by rw [hhp]; exact vx_Zq.moved hW0.alike (hN.kept hS.2.1)
  obtain ⟨S, q, ce, st, Z, hce, hcl', hv⟩ := vx_npeAt Y hexec htr (n := nb) (vx_own hat' (vx_isRefq hU'.1) (vx_isRefq hN'.1) hU'.2.word hN'.2.word) (fun x hx => nomatch hx)
    (g := F0 m pc ls rest) rfl hsize hRframes (by show 2 * 0 + (rest.map fun v => v.category).sum + 10240 ≤ R.locals; omega) (by show 0 + 1 ≤ 1; omega) (by show 0 + nb ≤ nb; omega) hlocks
  obtain ⟨f1, f2⟩ := vx_frame Z.same
  have f1' : H.size ≤ S.heap.size := by rw [← hT]; exact f1
  have f2' : ∀ q : Nat, q < H.size → S.heap[q]? = H[q]? := fun q hq => by
    rw [← hT]
    exact f2 q (by rw [← hT] at hq; exact hq) (fun z hz => nomatch hz)
  have X5 := vx_back9 X Y Z
  have X6 : Stand p l e R s m args below meth c S locs (cells + 1) (slots + nb) := { X5 with same := X5.same.mono (by omega) (by omega) }
  obtain ⟨t, a1, b1⟩ := k S.heap q ce f1' f2' ⟨Nat.le_trans hS.1 f1', fun q h1 h2 => (f2' q (Nat.lt_of_lt_of_le h1 hS.1)).trans (hS.2.1 q h1 h2), hS.2.2⟩ hce hv hcl' S rfl X6
  exact ⟨t, st t a1, b1⟩
variable {Q : State → Prop} {cc : ByteArray} {pc : Nat} {ls : Array Slot} {rest : List Value}
theorem vx_idivZ (hexec : p.tables.exec = Jvm.exec) (hb : c.code = cc) {a b : Int32} (h0 : b = 0) (d : decode cc pc = .ok (.idiv, 1)) (k : vx_Note p l e R s m args below meth c H locs cells slots Q (F0 m pc ls rest) "java/lang/ArithmeticException" "/ by zero") :
    W p l e R s m args below meth c H locs cells slots Q (F0 m pc ls (.int b :: .int a :: rest)) := by
  intro T hT X
  obtain ⟨t, st, q⟩ := k T hT X
  exact ⟨t, X.idivZero hexec (g := F0 m pc ls (.int b :: .int a :: rest)) rfl (a := a) (rest := rest) (by rw [h0]) (by rw [hb]; exact d) t st, q⟩
theorem vx_iremZ (hexec : p.tables.exec = Jvm.exec) (hb : c.code = cc) {a b : Int32} (h0 : b = 0) (d : decode cc pc = .ok (.irem, 1)) (k : vx_Note p l e R s m args below meth c H locs cells slots Q (F0 m pc ls rest) "java/lang/ArithmeticException" "/ by zero") :
    W p l e R s m args below meth c H locs cells slots Q (F0 m pc ls (.int b :: .int a :: rest)) := by
  intro T hT X
  obtain ⟨t, st, q⟩ := k T hT X
  exact ⟨t, X.iremZero hexec (g := F0 m pc ls (.int b :: .int a :: rest)) rfl (a := a) (rest := rest) (by rw [h0]) (by rw [hb]; exact d) t st, q⟩
theorem vx_ldivZ (hexec : p.tables.exec = Jvm.exec) (hb : c.code = cc) {a b : Int64} (h0 : b = 0) (d : decode cc pc = .ok (.ldiv, 1)) (k : vx_Note p l e R s m args below meth c H locs cells slots Q (F0 m pc ls rest) "java/lang/ArithmeticException" "/ by zero") :
    W p l e R s m args below meth c H locs cells slots Q (F0 m pc ls (.long b :: .long a :: rest)) := by
  intro T hT X
  obtain ⟨t, st, q⟩ := k T hT X
  exact ⟨t, X.ldivZero hexec (g := F0 m pc ls (.long b :: .long a :: rest)) rfl (a := a) (rest := rest) (by rw [h0]) (by rw [hb]; exact d) t st, q⟩
theorem vx_lremZ (hexec : p.tables.exec = Jvm.exec) (hb : c.code = cc) {a b : Int64} (h0 : b = 0) (d : decode cc pc = .ok (.lrem, 1)) (k : vx_Note p l e R s m args below meth c H locs cells slots Q (F0 m pc ls rest) "java/lang/ArithmeticException" "/ by zero") :
    W p l e R s m args below meth c H locs cells slots Q (F0 m pc ls (.long b :: .long a :: rest)) := by
  intro T hT X
  obtain ⟨t, st, q⟩ := k T hT X
  exact ⟨t, X.lremZero hexec (g := F0 m pc ls (.long b :: .long a :: rest)) rfl (a := a) (rest := rest) (by rw [h0]) (by rw [hb]; exact d) t st, q⟩
theorem vx_ialdZ {D : va_G} {cl : List vw_C} {ws : va_W} {tys : List (ClassId × FieldType)} {a : Nat} (hexec : p.tables.exec = Jvm.exec) (hb : c.code = cc) (hK : va_K D cl tys s) (hP : va_P D cl ws H) (q0 t0 : Nat) {cA : ClassId} {n : Nat} {f : Nat → Int32} (ha : ws[q0]? = some (a, .inl (cA, n, .inl f))) (ht : tys[t0]? = some (cA, .int)) {i : Int32} (hout : ¬ vp_in i n) (hdg : decode cc pc = .ok (.iaload, 1))
    (k : ∀ tx : String, tx = (toString "Index " ++ toString i ++ toString " out of bounds for length " ++ toString n : String) → vx_Note p l e R s m args below meth c H locs cells slots Q (F0 m pc ls rest) "java/lang/ArrayIndexOutOfBoundsException" tx) : W p l e R s m args below meth c H locs cells slots Q (F0 m pc ls (.int i :: .ref a :: rest)) := by
  intro T hT X
  obtain ⟨t, st, q⟩ := k _ rfl T hT X
  refine ⟨t, ?_, q⟩
  have h1 := X.ialoadOut hexec (by rw [hT]; exact hP q0 _ ha) ((hK.2 t0 _ ht).1 n (fun j => .int (f j))) (j := i) (by show (i < 0 ∨ (arrV _ _ _).slots.size ≤ _); rw [arrV_size]; exact Classical.byContradiction hout) (g := F0 m pc ls (.int i :: .ref a :: rest)) rfl (rest := rest) rfl (by rw [hb]; exact hdg) t
  simp only [arrV_size] at h1
  exact h1 st
theorem vx_iastZ {D : va_G} {cl : List vw_C} {ws : va_W} {tys : List (ClassId × FieldType)} {a : Nat} (hexec : p.tables.exec = Jvm.exec) (hb : c.code = cc) (hK : va_K D cl tys s) (hP : va_P D cl ws H) (q0 t0 : Nat) {cA : ClassId} {n : Nat} {f : Nat → Int32} (ha : ws[q0]? = some (a, .inl (cA, n, .inl f))) (ht : tys[t0]? = some (cA, .int)) {i : Int32} {x : Int32} (hout : ¬ vp_in i n) (hdg : decode cc pc = .ok (.iastore, 1))
    (k : ∀ tx : String, tx = (toString "Index " ++ toString i ++ toString " out of bounds for length " ++ toString n : String) → vx_Note p l e R s m args below meth c H locs cells slots Q (F0 m pc ls rest) "java/lang/ArrayIndexOutOfBoundsException" tx) : W p l e R s m args below meth c H locs cells slots Q (F0 m pc ls (.int x :: .int i :: .ref a :: rest)) := by
  intro T hT X
  obtain ⟨t, st, q⟩ := k _ rfl T hT X
  refine ⟨t, ?_, q⟩
  have h1 := X.iastoreOut hexec (by rw [hT]; exact hP q0 _ ha) ((hK.2 t0 _ ht).1 n (fun j => .int (f j))) (j := i) (by show (i < 0 ∨ (arrV _ _ _).slots.size ≤ _); rw [arrV_size]; exact Classical.byContradiction hout) (g := F0 m pc ls (.int x :: .int i :: .ref a :: rest)) rfl (rest := rest) rfl (by rw [hb]; exact hdg) t
  simp only [arrV_size] at h1
  exact h1 st
theorem vx_baldZ {D : va_G} {cl : List vw_C} {ws : va_W} {tys : List (ClassId × FieldType)} {a : Nat} (hexec : p.tables.exec = Jvm.exec) (hb : c.code = cc) (hK : va_K D cl tys s) (hP : va_P D cl ws H) (q0 t0 : Nat) {cA : ClassId} {n : Nat} {f : Nat → Int32} (ha : ws[q0]? = some (a, .inl (cA, n, .inl f))) (ht : tys[t0]? = some (cA, .byte)) {i : Int32} (hout : ¬ vp_in i n) (hdg : decode cc pc = .ok (.baload, 1))
    (k : ∀ tx : String, tx = (toString "Index " ++ toString i ++ toString " out of bounds for length " ++ toString n : String) → vx_Note p l e R s m args below meth c H locs cells slots Q (F0 m pc ls rest) "java/lang/ArrayIndexOutOfBoundsException" tx) : W p l e R s m args below meth c H locs cells slots Q (F0 m pc ls (.int i :: .ref a :: rest)) := by
  intro T hT X
  obtain ⟨t, st, q⟩ := k _ rfl T hT X
  refine ⟨t, ?_, q⟩
  have h1 := X.baloadOut hexec (by rw [hT]; exact hP q0 _ ha) ((hK.2 t0 _ ht).1 n (fun j => .int (f j))) (j := i) (by show (i < 0 ∨ (arrV _ _ _).slots.size ≤ _); rw [arrV_size]; exact Classical.byContradiction hout) (g := F0 m pc ls (.int i :: .ref a :: rest)) rfl (rest := rest) rfl (by rw [hb]; exact hdg) t
  simp only [arrV_size] at h1
  exact h1 st
theorem vx_bastZ {D : va_G} {cl : List vw_C} {ws : va_W} {tys : List (ClassId × FieldType)} {a : Nat} (hexec : p.tables.exec = Jvm.exec) (hb : c.code = cc) (hK : va_K D cl tys s) (hP : va_P D cl ws H) (q0 t0 : Nat) {cA : ClassId} {n : Nat} {f : Nat → Int32} (ha : ws[q0]? = some (a, .inl (cA, n, .inl f))) (ht : tys[t0]? = some (cA, .byte)) {i : Int32} {x : Int32} (hout : ¬ vp_in i n) (hdg : decode cc pc = .ok (.bastore, 1))
    (k : ∀ tx : String, tx = (toString "Index " ++ toString i ++ toString " out of bounds for length " ++ toString n : String) → vx_Note p l e R s m args below meth c H locs cells slots Q (F0 m pc ls rest) "java/lang/ArrayIndexOutOfBoundsException" tx) : W p l e R s m args below meth c H locs cells slots Q (F0 m pc ls (.int x :: .int i :: .ref a :: rest)) := by
  intro T hT X
  obtain ⟨t, st, q⟩ := k _ rfl T hT X
  refine ⟨t, ?_, q⟩
  have h1 := X.bastoreOut hexec (by rw [hT]; exact hP q0 _ ha) ((hK.2 t0 _ ht).1 n (fun j => .int (f j))) (j := i) (by show (i < 0 ∨ (arrV _ _ _).slots.size ≤ _); rw [arrV_size]; exact Classical.byContradiction hout) (g := F0 m pc ls (.int x :: .int i :: .ref a :: rest)) rfl (rest := rest) rfl (by rw [hb]; exact hdg) t
  simp only [arrV_size] at h1
  exact h1 st
theorem vx_zaldZ {D : va_G} {cl : List vw_C} {ws : va_W} {tys : List (ClassId × FieldType)} {a : Nat} (hexec : p.tables.exec = Jvm.exec) (hb : c.code = cc) (hK : va_K D cl tys s) (hP : va_P D cl ws H) (q0 t0 : Nat) {cA : ClassId} {n : Nat} {f : Nat → Int32} (ha : ws[q0]? = some (a, .inl (cA, n, .inl f))) (ht : tys[t0]? = some (cA, .boolean)) {i : Int32} (hout : ¬ vp_in i n) (hdg : decode cc pc = .ok (.baload, 1))
    (k : ∀ tx : String, tx = (toString "Index " ++ toString i ++ toString " out of bounds for length " ++ toString n : String) → vx_Note p l e R s m args below meth c H locs cells slots Q (F0 m pc ls rest) "java/lang/ArrayIndexOutOfBoundsException" tx) : W p l e R s m args below meth c H locs cells slots Q (F0 m pc ls (.int i :: .ref a :: rest)) := by
  intro T hT X
  obtain ⟨t, st, q⟩ := k _ rfl T hT X
  refine ⟨t, ?_, q⟩
  have h1 := X.baloadOut hexec (by rw [hT]; exact hP q0 _ ha) ((hK.2 t0 _ ht).1 n (fun j => .int (f j))) (j := i) (by show (i < 0 ∨ (arrV _ _ _).slots.size ≤ _); rw [arrV_size]; exact Classical.byContradiction hout) (g := F0 m pc ls (.int i :: .ref a :: rest)) rfl (rest := rest) rfl (by rw [hb]; exact hdg) t
  simp only [arrV_size] at h1
  exact h1 st
theorem vx_zastZ {D : va_G} {cl : List vw_C} {ws : va_W} {tys : List (ClassId × FieldType)} {a : Nat} (hexec : p.tables.exec = Jvm.exec) (hb : c.code = cc) (hK : va_K D cl tys s) (hP : va_P D cl ws H) (q0 t0 : Nat) {cA : ClassId} {n : Nat} {f : Nat → Int32} (ha : ws[q0]? = some (a, .inl (cA, n, .inl f))) (ht : tys[t0]? = some (cA, .boolean)) {i : Int32} {x : Int32} (hout : ¬ vp_in i n) (hdg : decode cc pc = .ok (.bastore, 1))
    (k : ∀ tx : String, tx = (toString "Index " ++ toString i ++ toString " out of bounds for length " ++ toString n : String) → vx_Note p l e R s m args below meth c H locs cells slots Q (F0 m pc ls rest) "java/lang/ArrayIndexOutOfBoundsException" tx) : W p l e R s m args below meth c H locs cells slots Q (F0 m pc ls (.int x :: .int i :: .ref a :: rest)) := by
  intro T hT X
  obtain ⟨t, st, q⟩ := k _ rfl T hT X
  refine ⟨t, ?_, q⟩
  have h1 := X.bastoreOut hexec (by rw [hT]; exact hP q0 _ ha) ((hK.2 t0 _ ht).1 n (fun j => .int (f j))) (j := i) (by show (i < 0 ∨ (arrV _ _ _).slots.size ≤ _); rw [arrV_size]; exact Classical.byContradiction hout) (g := F0 m pc ls (.int x :: .int i :: .ref a :: rest)) rfl (rest := rest) rfl (by rw [hb]; exact hdg) t
  simp only [arrV_size] at h1
  exact h1 st
theorem vx_caldZ {D : va_G} {cl : List vw_C} {ws : va_W} {tys : List (ClassId × FieldType)} {a : Nat} (hexec : p.tables.exec = Jvm.exec) (hb : c.code = cc) (hK : va_K D cl tys s) (hP : va_P D cl ws H) (q0 t0 : Nat) {cA : ClassId} {n : Nat} {f : Nat → Int32} (ha : ws[q0]? = some (a, .inl (cA, n, .inl f))) (ht : tys[t0]? = some (cA, .char)) {i : Int32} (hout : ¬ vp_in i n) (hdg : decode cc pc = .ok (.caload, 1))
    (k : ∀ tx : String, tx = (toString "Index " ++ toString i ++ toString " out of bounds for length " ++ toString n : String) → vx_Note p l e R s m args below meth c H locs cells slots Q (F0 m pc ls rest) "java/lang/ArrayIndexOutOfBoundsException" tx) : W p l e R s m args below meth c H locs cells slots Q (F0 m pc ls (.int i :: .ref a :: rest)) := by
  intro T hT X
  obtain ⟨t, st, q⟩ := k _ rfl T hT X
  refine ⟨t, ?_, q⟩
  have h1 := X.caloadOut hexec (by rw [hT]; exact hP q0 _ ha) ((hK.2 t0 _ ht).1 n (fun j => .int (f j))) (j := i) (by show (i < 0 ∨ (arrV _ _ _).slots.size ≤ _); rw [arrV_size]; exact Classical.byContradiction hout) (g := F0 m pc ls (.int i :: .ref a :: rest)) rfl (rest := rest) rfl (by rw [hb]; exact hdg) t
  simp only [arrV_size] at h1
  exact h1 st
theorem vx_castZ {D : va_G} {cl : List vw_C} {ws : va_W} {tys : List (ClassId × FieldType)} {a : Nat} (hexec : p.tables.exec = Jvm.exec) (hb : c.code = cc) (hK : va_K D cl tys s) (hP : va_P D cl ws H) (q0 t0 : Nat) {cA : ClassId} {n : Nat} {f : Nat → Int32} (ha : ws[q0]? = some (a, .inl (cA, n, .inl f))) (ht : tys[t0]? = some (cA, .char)) {i : Int32} {x : Int32} (hout : ¬ vp_in i n) (hdg : decode cc pc = .ok (.castore, 1))
    (k : ∀ tx : String, tx = (toString "Index " ++ toString i ++ toString " out of bounds for length " ++ toString n : String) → vx_Note p l e R s m args below meth c H locs cells slots Q (F0 m pc ls rest) "java/lang/ArrayIndexOutOfBoundsException" tx) : W p l e R s m args below meth c H locs cells slots Q (F0 m pc ls (.int x :: .int i :: .ref a :: rest)) := by
  intro T hT X
  obtain ⟨t, st, q⟩ := k _ rfl T hT X
  refine ⟨t, ?_, q⟩
  have h1 := X.castoreOut hexec (by rw [hT]; exact hP q0 _ ha) ((hK.2 t0 _ ht).1 n (fun j => .int (f j))) (j := i) (by show (i < 0 ∨ (arrV _ _ _).slots.size ≤ _); rw [arrV_size]; exact Classical.byContradiction hout) (g := F0 m pc ls (.int x :: .int i :: .ref a :: rest)) rfl (rest := rest) rfl (by rw [hb]; exact hdg) t
  simp only [arrV_size] at h1
  exact h1 st
theorem vx_saldZ {D : va_G} {cl : List vw_C} {ws : va_W} {tys : List (ClassId × FieldType)} {a : Nat} (hexec : p.tables.exec = Jvm.exec) (hb : c.code = cc) (hK : va_K D cl tys s) (hP : va_P D cl ws H) (q0 t0 : Nat) {cA : ClassId} {n : Nat} {f : Nat → Int32} (ha : ws[q0]? = some (a, .inl (cA, n, .inl f))) (ht : tys[t0]? = some (cA, .short)) {i : Int32} (hout : ¬ vp_in i n) (hdg : decode cc pc = .ok (.saload, 1))
    (k : ∀ tx : String, tx = (toString "Index " ++ toString i ++ toString " out of bounds for length " ++ toString n : String) → vx_Note p l e R s m args below meth c H locs cells slots Q (F0 m pc ls rest) "java/lang/ArrayIndexOutOfBoundsException" tx) : W p l e R s m args below meth c H locs cells slots Q (F0 m pc ls (.int i :: .ref a :: rest)) := by
  intro T hT X
  obtain ⟨t, st, q⟩ := k _ rfl T hT X
  refine ⟨t, ?_, q⟩
  have h1 := X.saloadOut hexec (by rw [hT]; exact hP q0 _ ha) ((hK.2 t0 _ ht).1 n (fun j => .int (f j))) (j := i) (by show (i < 0 ∨ (arrV _ _ _).slots.size ≤ _); rw [arrV_size]; exact Classical.byContradiction hout) (g := F0 m pc ls (.int i :: .ref a :: rest)) rfl (rest := rest) rfl (by rw [hb]; exact hdg) t
  simp only [arrV_size] at h1
  exact h1 st
theorem vx_sastZ {D : va_G} {cl : List vw_C} {ws : va_W} {tys : List (ClassId × FieldType)} {a : Nat} (hexec : p.tables.exec = Jvm.exec) (hb : c.code = cc) (hK : va_K D cl tys s) (hP : va_P D cl ws H) (q0 t0 : Nat) {cA : ClassId} {n : Nat} {f : Nat → Int32} (ha : ws[q0]? = some (a, .inl (cA, n, .inl f))) (ht : tys[t0]? = some (cA, .short)) {i : Int32} {x : Int32} (hout : ¬ vp_in i n) (hdg : decode cc pc = .ok (.sastore, 1))
    (k : ∀ tx : String, tx = (toString "Index " ++ toString i ++ toString " out of bounds for length " ++ toString n : String) → vx_Note p l e R s m args below meth c H locs cells slots Q (F0 m pc ls rest) "java/lang/ArrayIndexOutOfBoundsException" tx) : W p l e R s m args below meth c H locs cells slots Q (F0 m pc ls (.int x :: .int i :: .ref a :: rest)) := by
  intro T hT X
  obtain ⟨t, st, q⟩ := k _ rfl T hT X
  refine ⟨t, ?_, q⟩
  have h1 := X.sastoreOut hexec (by rw [hT]; exact hP q0 _ ha) ((hK.2 t0 _ ht).1 n (fun j => .int (f j))) (j := i) (by show (i < 0 ∨ (arrV _ _ _).slots.size ≤ _); rw [arrV_size]; exact Classical.byContradiction hout) (g := F0 m pc ls (.int x :: .int i :: .ref a :: rest)) rfl (rest := rest) rfl (by rw [hb]; exact hdg) t
  simp only [arrV_size] at h1
  exact h1 st
theorem vx_laldZ {D : va_G} {cl : List vw_C} {ws : va_W} {tys : List (ClassId × FieldType)} {a : Nat} (hexec : p.tables.exec = Jvm.exec) (hb : c.code = cc) (hK : va_K D cl tys s) (hP : va_P D cl ws H) (q0 t0 : Nat) {cA : ClassId} {n : Nat} {f : Nat → Int64} (ha : ws[q0]? = some (a, .inl (cA, n, .inr (.inl f)))) (ht : tys[t0]? = some (cA, .long)) {i : Int32} (hout : ¬ vp_in i n) (hdg : decode cc pc = .ok (.laload, 1))
    (k : ∀ tx : String, tx = (toString "Index " ++ toString i ++ toString " out of bounds for length " ++ toString n : String) → vx_Note p l e R s m args below meth c H locs cells slots Q (F0 m pc ls rest) "java/lang/ArrayIndexOutOfBoundsException" tx) : W p l e R s m args below meth c H locs cells slots Q (F0 m pc ls (.int i :: .ref a :: rest)) := by
  intro T hT X
  obtain ⟨t, st, q⟩ := k _ rfl T hT X
  refine ⟨t, ?_, q⟩
  have h1 := X.laloadOut hexec (by rw [hT]; exact hP q0 _ ha) ((hK.2 t0 _ ht).1 n (fun j => .long (f j))) (j := i) (by show (i < 0 ∨ (arrV _ _ _).slots.size ≤ _); rw [arrV_size]; exact Classical.byContradiction hout) (g := F0 m pc ls (.int i :: .ref a :: rest)) rfl (rest := rest) rfl (by rw [hb]; exact hdg) t
  simp only [arrV_size] at h1
  exact h1 st
theorem vx_lastZ {D : va_G} {cl : List vw_C} {ws : va_W} {tys : List (ClassId × FieldType)} {a : Nat} (hexec : p.tables.exec = Jvm.exec) (hb : c.code = cc) (hK : va_K D cl tys s) (hP : va_P D cl ws H) (q0 t0 : Nat) {cA : ClassId} {n : Nat} {f : Nat → Int64} (ha : ws[q0]? = some (a, .inl (cA, n, .inr (.inl f)))) (ht : tys[t0]? = some (cA, .long)) {i : Int32} {x : Int64} (hout : ¬ vp_in i n) (hdg : decode cc pc = .ok (.lastore, 1))
    (k : ∀ tx : String, tx = (toString "Index " ++ toString i ++ toString " out of bounds for length " ++ toString n : String) → vx_Note p l e R s m args below meth c H locs cells slots Q (F0 m pc ls rest) "java/lang/ArrayIndexOutOfBoundsException" tx) : W p l e R s m args below meth c H locs cells slots Q (F0 m pc ls (.long x :: .int i :: .ref a :: rest)) := by
  intro T hT X
  obtain ⟨t, st, q⟩ := k _ rfl T hT X
  refine ⟨t, ?_, q⟩
  have h1 := X.lastoreOut hexec (by rw [hT]; exact hP q0 _ ha) ((hK.2 t0 _ ht).1 n (fun j => .long (f j))) (j := i) (by show (i < 0 ∨ (arrV _ _ _).slots.size ≤ _); rw [arrV_size]; exact Classical.byContradiction hout) (g := F0 m pc ls (.long x :: .int i :: .ref a :: rest)) rfl (rest := rest) rfl (by rw [hb]; exact hdg) t
  simp only [arrV_size] at h1
  exact h1 st
theorem vx_faldZ {D : va_G} {cl : List vw_C} {ws : va_W} {tys : List (ClassId × FieldType)} {a : Nat} (hexec : p.tables.exec = Jvm.exec) (hb : c.code = cc) (hK : va_K D cl tys s) (hP : va_P D cl ws H) (q0 t0 : Nat) {cA : ClassId} {n : Nat} {f : Nat → UInt32} (ha : ws[q0]? = some (a, .inl (cA, n, .inr (.inr (.inl f))))) (ht : tys[t0]? = some (cA, .float)) {i : Int32} (hout : ¬ vp_in i n) (hdg : decode cc pc = .ok (.faload, 1))
    (k : ∀ tx : String, tx = (toString "Index " ++ toString i ++ toString " out of bounds for length " ++ toString n : String) → vx_Note p l e R s m args below meth c H locs cells slots Q (F0 m pc ls rest) "java/lang/ArrayIndexOutOfBoundsException" tx) : W p l e R s m args below meth c H locs cells slots Q (F0 m pc ls (.int i :: .ref a :: rest)) := by
  intro T hT X
  obtain ⟨t, st, q⟩ := k _ rfl T hT X
  refine ⟨t, ?_, q⟩
  have h1 := X.faloadOut hexec (by rw [hT]; exact hP q0 _ ha) ((hK.2 t0 _ ht).1 n (fun j => .float (f j))) (j := i) (by show (i < 0 ∨ (arrV _ _ _).slots.size ≤ _); rw [arrV_size]; exact Classical.byContradiction hout) (g := F0 m pc ls (.int i :: .ref a :: rest)) rfl (rest := rest) rfl (by rw [hb]; exact hdg) t
  simp only [arrV_size] at h1
  exact h1 st
theorem vx_fastZ {D : va_G} {cl : List vw_C} {ws : va_W} {tys : List (ClassId × FieldType)} {a : Nat} (hexec : p.tables.exec = Jvm.exec) (hb : c.code = cc) (hK : va_K D cl tys s) (hP : va_P D cl ws H) (q0 t0 : Nat) {cA : ClassId} {n : Nat} {f : Nat → UInt32} (ha : ws[q0]? = some (a, .inl (cA, n, .inr (.inr (.inl f))))) (ht : tys[t0]? = some (cA, .float)) {i : Int32} {x : UInt32} (hout : ¬ vp_in i n) (hdg : decode cc pc = .ok (.fastore, 1))
    (k : ∀ tx : String, tx = (toString "Index " ++ toString i ++ toString " out of bounds for length " ++ toString n : String) → vx_Note p l e R s m args below meth c H locs cells slots Q (F0 m pc ls rest) "java/lang/ArrayIndexOutOfBoundsException" tx) : W p l e R s m args below meth c H locs cells slots Q (F0 m pc ls (.float x :: .int i :: .ref a :: rest)) := by
  intro T hT X
  obtain ⟨t, st, q⟩ := k _ rfl T hT X
  refine ⟨t, ?_, q⟩
  have h1 := X.fastoreOut hexec (by rw [hT]; exact hP q0 _ ha) ((hK.2 t0 _ ht).1 n (fun j => .float (f j))) (j := i) (by show (i < 0 ∨ (arrV _ _ _).slots.size ≤ _); rw [arrV_size]; exact Classical.byContradiction hout) (g := F0 m pc ls (.float x :: .int i :: .ref a :: rest)) rfl (rest := rest) rfl (by rw [hb]; exact hdg) t
  simp only [arrV_size] at h1
  exact h1 st
theorem vx_daldZ {D : va_G} {cl : List vw_C} {ws : va_W} {tys : List (ClassId × FieldType)} {a : Nat} (hexec : p.tables.exec = Jvm.exec) (hb : c.code = cc) (hK : va_K D cl tys s) (hP : va_P D cl ws H) (q0 t0 : Nat) {cA : ClassId} {n : Nat} {f : Nat → UInt64} (ha : ws[q0]? = some (a, .inl (cA, n, .inr (.inr (.inr (.inl f)))))) (ht : tys[t0]? = some (cA, .double)) {i : Int32} (hout : ¬ vp_in i n) (hdg : decode cc pc = .ok (.daload, 1))
    (k : ∀ tx : String, tx = (toString "Index " ++ toString i ++ toString " out of bounds for length " ++ toString n : String) → vx_Note p l e R s m args below meth c H locs cells slots Q (F0 m pc ls rest) "java/lang/ArrayIndexOutOfBoundsException" tx) : W p l e R s m args below meth c H locs cells slots Q (F0 m pc ls (.int i :: .ref a :: rest)) := by
  intro T hT X
  obtain ⟨t, st, q⟩ := k _ rfl T hT X
  refine ⟨t, ?_, q⟩
  have h1 := X.daloadOut hexec (by rw [hT]; exact hP q0 _ ha) ((hK.2 t0 _ ht).1 n (fun j => .double (f j))) (j := i) (by show (i < 0 ∨ (arrV _ _ _).slots.size ≤ _); rw [arrV_size]; exact Classical.byContradiction hout) (g := F0 m pc ls (.int i :: .ref a :: rest)) rfl (rest := rest) rfl (by rw [hb]; exact hdg) t
  simp only [arrV_size] at h1
  exact h1 st
theorem vx_dastZ {D : va_G} {cl : List vw_C} {ws : va_W} {tys : List (ClassId × FieldType)} {a : Nat} (hexec : p.tables.exec = Jvm.exec) (hb : c.code = cc) (hK : va_K D cl tys s) (hP : va_P D cl ws H) (q0 t0 : Nat) {cA : ClassId} {n : Nat} {f : Nat → UInt64} (ha : ws[q0]? = some (a, .inl (cA, n, .inr (.inr (.inr (.inl f)))))) (ht : tys[t0]? = some (cA, .double)) {i : Int32} {x : UInt64} (hout : ¬ vp_in i n) (hdg : decode cc pc = .ok (.dastore, 1))
    (k : ∀ tx : String, tx = (toString "Index " ++ toString i ++ toString " out of bounds for length " ++ toString n : String) → vx_Note p l e R s m args below meth c H locs cells slots Q (F0 m pc ls rest) "java/lang/ArrayIndexOutOfBoundsException" tx) : W p l e R s m args below meth c H locs cells slots Q (F0 m pc ls (.double x :: .int i :: .ref a :: rest)) := by
  intro T hT X
  obtain ⟨t, st, q⟩ := k _ rfl T hT X
  refine ⟨t, ?_, q⟩
  have h1 := X.dastoreOut hexec (by rw [hT]; exact hP q0 _ ha) ((hK.2 t0 _ ht).1 n (fun j => .double (f j))) (j := i) (by show (i < 0 ∨ (arrV _ _ _).slots.size ≤ _); rw [arrV_size]; exact Classical.byContradiction hout) (g := F0 m pc ls (.double x :: .int i :: .ref a :: rest)) rfl (rest := rest) rfl (by rw [hb]; exact hdg) t
  simp only [arrV_size] at h1
  exact h1 st
theorem vx_arraylengthN (hexec : p.tables.exec = Jvm.exec) (hb : c.code = cc) (hdg : decode cc pc = .ok (.arraylength, 1)) (k : vx_NoteN p l e R s m args below meth c H locs cells slots Q (F0 m pc ls rest)) : W p l e R s m args below meth c H locs cells slots Q (F0 m pc ls (.null :: rest)) := by
  intro T hT X
  obtain ⟨t, st, q⟩ := k T hT X
  exact ⟨t, X.arraylengthNull hexec (g := F0 m pc ls (.null :: rest)) rfl (rest := rest) rfl (by rw [hb]; exact hdg) t st, q⟩
theorem vx_ialoadN (hexec : p.tables.exec = Jvm.exec) (hb : c.code = cc) {i : Int32} (hdg : decode cc pc = .ok (.iaload, 1)) (k : vx_NoteN p l e R s m args below meth c H locs cells slots Q (F0 m pc ls rest)) : W p l e R s m args below meth c H locs cells slots Q (F0 m pc ls (.int i :: .null :: rest)) := by
  intro T hT X
  obtain ⟨t, st, q⟩ := k T hT X
  exact ⟨t, X.ialoadNull hexec (g := F0 m pc ls (.int i :: .null :: rest)) rfl (rest := rest) rfl (by rw [hb]; exact hdg) t st, q⟩
theorem vx_laloadN (hexec : p.tables.exec = Jvm.exec) (hb : c.code = cc) {i : Int32} (hdg : decode cc pc = .ok (.laload, 1)) (k : vx_NoteN p l e R s m args below meth c H locs cells slots Q (F0 m pc ls rest)) : W p l e R s m args below meth c H locs cells slots Q (F0 m pc ls (.int i :: .null :: rest)) := by
  intro T hT X
  obtain ⟨t, st, q⟩ := k T hT X
  exact ⟨t, X.laloadNull hexec (g := F0 m pc ls (.int i :: .null :: rest)) rfl (rest := rest) rfl (by rw [hb]; exact hdg) t st, q⟩
theorem vx_faloadN (hexec : p.tables.exec = Jvm.exec) (hb : c.code = cc) {i : Int32} (hdg : decode cc pc = .ok (.faload, 1)) (k : vx_NoteN p l e R s m args below meth c H locs cells slots Q (F0 m pc ls rest)) : W p l e R s m args below meth c H locs cells slots Q (F0 m pc ls (.int i :: .null :: rest)) := by
  intro T hT X
  obtain ⟨t, st, q⟩ := k T hT X
  exact ⟨t, X.faloadNull hexec (g := F0 m pc ls (.int i :: .null :: rest)) rfl (rest := rest) rfl (by rw [hb]; exact hdg) t st, q⟩
theorem vx_daloadN (hexec : p.tables.exec = Jvm.exec) (hb : c.code = cc) {i : Int32} (hdg : decode cc pc = .ok (.daload, 1)) (k : vx_NoteN p l e R s m args below meth c H locs cells slots Q (F0 m pc ls rest)) : W p l e R s m args below meth c H locs cells slots Q (F0 m pc ls (.int i :: .null :: rest)) := by
  intro T hT X
  obtain ⟨t, st, q⟩ := k T hT X
  exact ⟨t, X.daloadNull hexec (g := F0 m pc ls (.int i :: .null :: rest)) rfl (rest := rest) rfl (by rw [hb]; exact hdg) t st, q⟩
theorem vx_aaloadN (hexec : p.tables.exec = Jvm.exec) (hb : c.code = cc) {i : Int32} (hdg : decode cc pc = .ok (.aaload, 1)) (k : vx_NoteN p l e R s m args below meth c H locs cells slots Q (F0 m pc ls rest)) : W p l e R s m args below meth c H locs cells slots Q (F0 m pc ls (.int i :: .null :: rest)) := by
  intro T hT X
  obtain ⟨t, st, q⟩ := k T hT X
  exact ⟨t, X.aaloadNull hexec (g := F0 m pc ls (.int i :: .null :: rest)) rfl (rest := rest) rfl (by rw [hb]; exact hdg) t st, q⟩
theorem vx_baloadN (hexec : p.tables.exec = Jvm.exec) (hb : c.code = cc) {i : Int32} (hdg : decode cc pc = .ok (.baload, 1)) (k : vx_NoteN p l e R s m args below meth c H locs cells slots Q (F0 m pc ls rest)) : W p l e R s m args below meth c H locs cells slots Q (F0 m pc ls (.int i :: .null :: rest)) := by
  intro T hT X
  obtain ⟨t, st, q⟩ := k T hT X
  exact ⟨t, X.baloadNull hexec (g := F0 m pc ls (.int i :: .null :: rest)) rfl (rest := rest) rfl (by rw [hb]; exact hdg) t st, q⟩
theorem vx_caloadN (hexec : p.tables.exec = Jvm.exec) (hb : c.code = cc) {i : Int32} (hdg : decode cc pc = .ok (.caload, 1)) (k : vx_NoteN p l e R s m args below meth c H locs cells slots Q (F0 m pc ls rest)) : W p l e R s m args below meth c H locs cells slots Q (F0 m pc ls (.int i :: .null :: rest)) := by
  intro T hT X
  obtain ⟨t, st, q⟩ := k T hT X
  exact ⟨t, X.caloadNull hexec (g := F0 m pc ls (.int i :: .null :: rest)) rfl (rest := rest) rfl (by rw [hb]; exact hdg) t st, q⟩
theorem vx_saloadN (hexec : p.tables.exec = Jvm.exec) (hb : c.code = cc) {i : Int32} (hdg : decode cc pc = .ok (.saload, 1)) (k : vx_NoteN p l e R s m args below meth c H locs cells slots Q (F0 m pc ls rest)) : W p l e R s m args below meth c H locs cells slots Q (F0 m pc ls (.int i :: .null :: rest)) := by
  intro T hT X
  obtain ⟨t, st, q⟩ := k T hT X
  exact ⟨t, X.saloadNull hexec (g := F0 m pc ls (.int i :: .null :: rest)) rfl (rest := rest) rfl (by rw [hb]; exact hdg) t st, q⟩
theorem vx_iastoreN (hexec : p.tables.exec = Jvm.exec) (hb : c.code = cc) {x : Int32} {i : Int32} (hdg : decode cc pc = .ok (.iastore, 1)) (k : vx_NoteN p l e R s m args below meth c H locs cells slots Q (F0 m pc ls rest)) : W p l e R s m args below meth c H locs cells slots Q (F0 m pc ls (.int x :: .int i :: .null :: rest)) := by
  intro T hT X
  obtain ⟨t, st, q⟩ := k T hT X
  exact ⟨t, X.iastoreNull hexec (g := F0 m pc ls (.int x :: .int i :: .null :: rest)) rfl (rest := rest) rfl (by rw [hb]; exact hdg) t st, q⟩
theorem vx_lastoreN (hexec : p.tables.exec = Jvm.exec) (hb : c.code = cc) {x : Int64} {i : Int32} (hdg : decode cc pc = .ok (.lastore, 1)) (k : vx_NoteN p l e R s m args below meth c H locs cells slots Q (F0 m pc ls rest)) : W p l e R s m args below meth c H locs cells slots Q (F0 m pc ls (.long x :: .int i :: .null :: rest)) := by
  intro T hT X
  obtain ⟨t, st, q⟩ := k T hT X
  exact ⟨t, X.lastoreNull hexec (g := F0 m pc ls (.long x :: .int i :: .null :: rest)) rfl (rest := rest) rfl (by rw [hb]; exact hdg) t st, q⟩
theorem vx_fastoreN (hexec : p.tables.exec = Jvm.exec) (hb : c.code = cc) {x : UInt32} {i : Int32} (hdg : decode cc pc = .ok (.fastore, 1)) (k : vx_NoteN p l e R s m args below meth c H locs cells slots Q (F0 m pc ls rest)) : W p l e R s m args below meth c H locs cells slots Q (F0 m pc ls (.float x :: .int i :: .null :: rest)) := by
  intro T hT X
  obtain ⟨t, st, q⟩ := k T hT X
  exact ⟨t, X.fastoreNull hexec (g := F0 m pc ls (.float x :: .int i :: .null :: rest)) rfl (rest := rest) rfl (by rw [hb]; exact hdg) t st, q⟩
theorem vx_dastoreN (hexec : p.tables.exec = Jvm.exec) (hb : c.code = cc) {x : UInt64} {i : Int32} (hdg : decode cc pc = .ok (.dastore, 1)) (k : vx_NoteN p l e R s m args below meth c H locs cells slots Q (F0 m pc ls rest)) : W p l e R s m args below meth c H locs cells slots Q (F0 m pc ls (.double x :: .int i :: .null :: rest)) := by
  intro T hT X
  obtain ⟨t, st, q⟩ := k T hT X
  exact ⟨t, X.dastoreNull hexec (g := F0 m pc ls (.double x :: .int i :: .null :: rest)) rfl (rest := rest) rfl (by rw [hb]; exact hdg) t st, q⟩
theorem vx_bastoreN (hexec : p.tables.exec = Jvm.exec) (hb : c.code = cc) {x : Int32} {i : Int32} (hdg : decode cc pc = .ok (.bastore, 1)) (k : vx_NoteN p l e R s m args below meth c H locs cells slots Q (F0 m pc ls rest)) : W p l e R s m args below meth c H locs cells slots Q (F0 m pc ls (.int x :: .int i :: .null :: rest)) := by
  intro T hT X
  obtain ⟨t, st, q⟩ := k T hT X
  exact ⟨t, X.bastoreNull hexec (g := F0 m pc ls (.int x :: .int i :: .null :: rest)) rfl (rest := rest) rfl (by rw [hb]; exact hdg) t st, q⟩
theorem vx_castoreN (hexec : p.tables.exec = Jvm.exec) (hb : c.code = cc) {x : Int32} {i : Int32} (hdg : decode cc pc = .ok (.castore, 1)) (k : vx_NoteN p l e R s m args below meth c H locs cells slots Q (F0 m pc ls rest)) : W p l e R s m args below meth c H locs cells slots Q (F0 m pc ls (.int x :: .int i :: .null :: rest)) := by
  intro T hT X
  obtain ⟨t, st, q⟩ := k T hT X
  exact ⟨t, X.castoreNull hexec (g := F0 m pc ls (.int x :: .int i :: .null :: rest)) rfl (rest := rest) rfl (by rw [hb]; exact hdg) t st, q⟩
theorem vx_sastoreN (hexec : p.tables.exec = Jvm.exec) (hb : c.code = cc) {x : Int32} {i : Int32} (hdg : decode cc pc = .ok (.sastore, 1)) (k : vx_NoteN p l e R s m args below meth c H locs cells slots Q (F0 m pc ls rest)) : W p l e R s m args below meth c H locs cells slots Q (F0 m pc ls (.int x :: .int i :: .null :: rest)) := by
  intro T hT X
  obtain ⟨t, st, q⟩ := k T hT X
  exact ⟨t, X.sastoreNull hexec (g := F0 m pc ls (.int x :: .int i :: .null :: rest)) rfl (rest := rest) rfl (by rw [hb]; exact hdg) t st, q⟩
theorem vx_invokeN {own C : String} {index maxL : Nat} {y : MethodName} {bytes : ByteArray} {ret : Option FieldType} (hexec : p.tables.exec = Jvm.exec) (hb : c.code = cc) (hown : s.vm.findClass own = some m.cls) (hlink : (Cond.methodLink own index y).before args s = true) (hinst : (Cond.instanceMethod y).before args s = true) (hcode : (Cond.code y bytes maxL ret).before args s = true) (hsel : (Cond.selects C y y).before args s = true)
    (hx : y.cls ≠ "java/lang/invoke/MethodHandle" ∧ y.cls ≠ "java/lang/invoke/VarHandle") {As : List Value} (hlen : (parseMethodDescriptor y.desc).map (fun d => d.parameters.length) = some As.length) (hdg : decode cc pc = .ok (.invokevirtual index, 3))
    (k : vx_NoteN p l e R s m args below meth c H locs cells slots Q (F0 m pc ls rest)) {st0 : List Value} (hst : st0 = As.reverse ++ .null :: rest) : W p l e R s m args below meth c H locs cells slots Q (F0 m pc ls st0) := by
  intro T hT X
  obtain ⟨r0, r, hn, hrm, hstR, hsigR⟩ := va_Decl.of hinst hcode
  obtain ⟨c2, r2, m2, q1, q2, q3, q4, kP, hkP, hkPi⟩ := Cond.selects_spec hsel
  cases hn.symm.trans q3
  have hl9 : As.length = r.sig.parameters.length := by
    rw [hsigR] at hlen
    exact (Option.some.inj hlen).symm
  obtain ⟨vm', X1, st1⟩ := X.invokevirtualNull hexec hown hlink hn hrm hstR hkP hkPi hx (g := F0 m pc ls st0) rfl (argsL := As) (rest := rest) hl9 hst (by rw [hb]; exact hdg)
  obtain ⟨t, st, q⟩ := k (T.setVm vm') hT X1
  exact ⟨t, st1 t st, q⟩
theorem vx_newarrayZ {atype : ArrayType} (hexec : p.tables.exec = Jvm.exec) (hb : c.code = cc) {n : Int32} (h0 : n < 0) (hdg : decode cc pc = .ok (.newarray atype, 2)) (k : ∀ tx : String, tx = toString n → vx_Note p l e R s m args below meth c H locs cells slots Q (F0 m pc ls rest) "java/lang/NegativeArraySizeException" tx) : W p l e R s m args below meth c H locs cells slots Q (F0 m pc ls (.int n :: rest)) := by
  intro T hT X
  obtain ⟨t, st, q⟩ := k _ rfl T hT X
  exact ⟨t, X.newarrayNegative hexec (g := F0 m pc ls (.int n :: rest)) rfl h0 (rest := rest) rfl (by rw [hb]; exact hdg) t st, q⟩
end
end VXM
/-! ===== END ===== -/
/-! ===== BEGIN an exception as an object: made, kept, thrown later (no traces kept) ===== -/
section VXK
variable {p : Program} {l : Launch} {e : Env} {R : Room} {s : State} {m₀ : MethodId} {args : Array Value} {below : List Frame} {meth : Method} {c : Code} {W : State} {locs : List Loc} {cells slots : Nat}
set_option maxHeartbeats 1000000 in
theorem vx_ctorMadeS (X : Stand p l e R s m₀ args below meth c W locs cells slots) (hexec : p.tables.exec = Jvm.exec) (htr : e.platform.stackTraces = false) {own cls : String} {names : List String} {ic : Nat}
    (hown : s.vm.findClass own = some m₀.cls) (hcls : Bundle.fit cls = true) (hnames : ∀ n ∈ names, Bundle.fit n = true)
    (h : ∀ a ∈ Bundle.ownAtoms own ic cls names, a.before args s = true)
    (hlocs : ∀ x ∈ locs, ∀ cell, s.heap[x.base]? = some cell → cell.vm.isStatics = false)
    {a : Addr} {cX : ClassId} {kX : Class} (hfoundX : s.vm.findClass cls = some cX) (hkX : s.vm.classes[cX]? = some kX) (hcell : W.heap[a]? = some (freshCell cX kX)) (hnew : s.heap.size ≤ a)
    {msg : Value} (hmsg : msg.isRef = true)
    {g : JFrame} (hg : g.method = m₀) (hsize : g.locals.size = c.maxLocals) {rest : List Value} (hstack : g.stack = msg :: .ref a :: .ref a :: rest)
    (hd6 : decode c.code g.pc = .ok (.invokespecial ic, 3))
    (hRframes : names.length + 3 < R.frames) (hRlocals : 2 * g.monitorRoom + ((Value.ref a :: rest).map fun v => v.category).sum + (13 * (names.length + 1) + 42) ≤ R.locals) :
    ∃ (V : State) (ce : Cell) (L : List Loc), Stand p l e R s m₀ args below meth c (V.setCell a ce) (locs ++ L) cells slots ∧ (∀ y ∈ L, y.base = a) ∧ a < V.heap.size ∧ ce.cls = cX ∧ ce.vm = .none ∧
      ∀ target, Steps p.tables e below ((V.setCell a ce).setTop { g with stack := .ref a :: rest, pc := g.pc + 3 }) target → Steps p.tables e below (W.setTop g) target := by
  have howns : e.platform.frameOwnsMonitors = true := by rw [X.admits.platform]
  have hfin : e.platform.finalization = false := by rw [X.admits.platform]
  have hpl : e.platform.magicAccessors = ({} : Platform).magicAccessors := by rw [X.admits.platform]
  have a' : ∀ x, x ∈ Bundle.ownAtoms own ic cls names → x.holds args s none s [] = true := fun x hx => h x hx
  obtain ⟨T, Z0, L, -, Y⟩ := ThrowableC.of_atoms (args := args) howns hfin hpl (fun x hx => h x (by simp [Bundle.ownAtoms, hx]))
  obtain ⟨Z, M, LZ, LM, hnZ⟩ := Init0T.ofS_atoms (args := args) hpl L Y (fun x hx => h x (by simp [Bundle.ownAtoms, hx]))
  obtain ⟨P1, Ps, hlen, L1, hL, hP1m, hlink1, hlink⟩ := Bundle.chainS (args := args) hpl hnZ names cls hcls hnames (fun x hx => h x (by simp [Bundle.ownAtoms, hx]))
  have hfound : s.vm.findClass cls = some P1.m.cls := findClass_of_methodNamed hP1m
  cases Option.some.inj (hfoundX.symm.trans hfound)
  obtain ⟨c1, kX', hc1, hk, hord, -, -, hn6⟩ := Cond.instantiable_spec (a' (.instantiable cls 6) (by simp [Bundle.ownAtoms]))
  cases Option.some.inj (hc1.symm.trans hfound)
  cases Option.some.inj (hkX.symm.trans hk)
  have hsel0 : selectMethod e.platform s.vm P1.m.cls T.fill0 = .method T.fill0 := by
    obtain ⟨c2, r2, m2, q1, q2, q3, q4, -⟩ := Cond.selects_spec (a' (.selects cls Bundle.tFill0 Bundle.tFill0) (by simp [Bundle.ownAtoms]))
    cases Option.some.inj (q1.symm.trans hfound)
    cases Option.some.inj (q2.symm.trans (State.methodFound?_of_named Y.fill0 (by decide)))
    cases Option.some.inj (q3.symm.trans Y.fill0)
    rw [Launch.admits_selectMethod X.admits]; exact q4
  have hselF : selectMethod e.platform s.vm P1.m.cls T.fill = .method T.fill := by
    obtain ⟨c2, r2, m2, q1, q2, q3, q4, -⟩ := Cond.selects_spec (a' (.selects cls Bundle.tFill Bundle.tFill) (by simp [Bundle.ownAtoms]))
    cases Option.some.inj (q1.symm.trans hfound)
    cases Option.some.inj (q2.symm.trans (State.methodFound?_of_named Y.fill (by decide)))
    cases Option.some.inj (q3.symm.trans Y.fill)
    rw [Launch.admits_selectMethod X.admits]; exact q4
  obtain ⟨cellS0, hcS0, hiss⟩ := Y.statics
  obtain ⟨u0, hu0⟩ := Cond.staticRefV Y.unassigned L.unassignedStatic L.statics hcS0 hiss (a' (.isRef (.static Bundle.tN "UNASSIGNED_STACK" Bundle.steD)) (by simp [Bundle.ownAtoms]))
  obtain ⟨sen, hsen⟩ := Cond.staticRefV Y.sentinel L.sentinelStatic L.statics hcS0 hiss (a' (.isRef (.static Bundle.tN "SUPPRESSED_SENTINEL" Bundle.listD)) (by simp [Bundle.ownAtoms]))
  obtain ⟨ci198, i198, fB, hk198, hg198, ha198, hsB, -, hnB, htB, hffB⟩ := Cond.ownField (t := .object "java/lang/Object") Y.found L.cls (by decide +kernel) (a' (.fieldLink Bundle.tN 198 Bundle.tN "backtrace" "Ljava/lang/Object;") (by simp [Bundle.ownAtoms])) (a' (.lays Bundle.tN Bundle.tN "backtrace" "Ljava/lang/Object;") (by simp [Bundle.ownAtoms])) e.platform hpl
  obtain ⟨cellS, hcS', heS, -, hkeep⟩ := X.same.2.2.2.2.2 T.aS cellS0 hcS0
  have hcellS : W.heap[T.aS]? = some cellS := hcS'
  have hout' : ∀ i, (⟨T.aS, i⟩ : Loc) ∉ locs := fun i hmem => by
    have := hlocs _ hmem cellS0 hcS0
    rw [hiss] at this; cases this
  have hknownS : cellS.vm ≠ .unknown := by
    rw [heS]; intro hu
    rw [show cellS0.vm = .unknown from hu] at hiss
    cases hiss
  have hneS : T.aS ≠ a := Nat.ne_of_lt (Nat.lt_of_lt_of_le (Array.getElem?_eq_some_iff.mp hcS0).1 hnew)
  obtain ⟨iM, hffM⟩ := Y.msg
  obtain ⟨tyC, dC, hdC, hdnC⟩ := Cond.laysAt hfound hk Y.cause (a' (.lays cls Bundle.tN "cause" "Ljava/lang/Throwable;") (by simp [Bundle.ownAtoms]))
  obtain ⟨tyS, dS, hdS, hdnS⟩ := Cond.laysAt hfound hk Y.stack (a' (.lays cls Bundle.tN "stackTrace" Bundle.steD) (by simp [Bundle.ownAtoms]))
  obtain ⟨tyP, dP, hdP, hdnP⟩ := Cond.laysAt hfound hk Y.supp (a' (.lays cls Bundle.tN "suppressedExceptions" Bundle.listD) (by simp [Bundle.ownAtoms]))
  obtain ⟨tyM, dM, hdM, hdnM⟩ := Cond.laysAt hfound hk hffM (a' (.lays cls Bundle.tN "detailMessage" "Ljava/lang/String;") (by simp [Bundle.ownAtoms]))
  obtain ⟨tyB, dB, hdB, hdnB⟩ := Cond.laysAt hfound hk hffB (a' (.lays cls Bundle.tN "backtrace" "Ljava/lang/Object;") (by simp [Bundle.ownAtoms]))
  have bC := Cond.laysApart hdB hdC hdnB hdnC (by rw [hnB, Y.causeName]; decide)
  have bS := Cond.laysApart hdB hdS hdnB hdnS (by rw [hnB, Y.stackName]; decide)
  have bP := Cond.laysApart hdB hdP hdnB hdnP (by rw [hnB, Y.suppName]; decide)
  have hskip : SkipFacts T e.platform s (fun u => u) u0 ((preparedCellV T.toThrowableT (freshCell P1.m.cls kX) a u0 sen).withEntry W.cur) :=
    ⟨{ ci198 := ci198, i198 := i198, fBack := fB }, ⟨hk198, hg198, ha198, hsB⟩, by
      have := fresh_default (c := P1.m.cls) tyB
      rw [htB] at this
      simpa [preparedCellV, Cell.setSlot, Cell.withEntry, Array.getElem?_setIfInBounds, bC, bS, bP, bC.symm, bS.symm, bP.symm, defaultValue] using this, fun _ _ => rfl⟩
  obtain ⟨tm, methC, cdC, kC, vm₁, hnC, -, -, -, -, -, -, -, hW₁, st1⟩ := Steps.initColdS (tb := p.tables) (e := e) (below := below) (s := s) (U := W) X.here hexec X.warmed hpl hown (t := Bundle.initS cls) rfl rfl (Bundle.fit_spec hcls).2
    (a' (.methodLink own ic (Bundle.initS cls)) (by simp [Bundle.ownAtoms])) (h (.instanceMethod (Bundle.initS cls)) (by cases names <;> simp [Bundle.ownAtoms, Bundle.chainSAtoms, Bundle.passSAtoms])) (bytes := Bundle.six) (maxL := 2) (h (.code (Bundle.initS cls) Bundle.six 2 none) (by cases names <;> simp [Bundle.ownAtoms, Bundle.chainSAtoms, Bundle.passSAtoms]))
    (f := g) hg (a := a) (msg := msg) (rest := .ref a :: rest) hstack hd6
  cases Option.some.inj (hnC.symm.trans hP1m)
  have X₁ := X.noted hW₁
  obtain ⟨vm₂, X₂, st2⟩ := X₁.ctorMessageOffV hexec (g := { g with stack := .ref a :: rest }) hg hsize T L Z LZ M LM (P1 :: Ps)
    (fun P hP => by rcases List.mem_cons.mp hP with rfl | hP; exact L1; exact hL P hP) ⟨hlink1, hlink⟩ (u0 := u0) (sen := sen) (self := a) hmsg (cell := freshCell P1.m.cls kX) (cellS := cellS)
    hcell (fun _ => by simp) (by simp) rfl rfl hsel0 hselF hcellS hneS hknownS (by rw [hkeep _ (hout' _)]; exact hu0) (by rw [hkeep _ (hout' _)]; exact hsen)
    (Takes.of_laid hk hord tyC (by rw [Y.causeType]; rfl)) (Takes.of_laid hk hord tyS (by rw [Y.stackType]; exact fits_refV_array _ u0)) (Takes.of_laid hk hord tyP (by rw [Y.suppType]; exact fits_refV_object _ sen))
    (Takes.of_laid hk hord tyM (by rw [Y.msgType]; exact fits_refV_object _ ⟨msg, hmsg⟩)) Y.objLocals hskip htr [] hd6
    (by simp only [List.length_cons, hlen]; omega) (by simp only [List.length_cons, hlen]; exact hRlocals)
  have hlt : a < ((W.setVm vm₁).setVm vm₂).heap.size := (Array.getElem?_eq_some_iff.mp hcell).1
  refine ⟨(W.setVm vm₁).setVm vm₂, _, _, X₂, fun y hy => ?_, hlt, rfl, rfl, fun target hwalk => st1 _ (fun acts => ?_)⟩
  · simp only [List.mem_cons, List.not_mem_nil, or_false] at hy
    rcases hy with rfl | rfl | rfl | rfl | rfl <;> rfl
  · rw [doInvoke_state]
    exact st2 _ hwalk
set_option maxHeartbeats 1000000 in
theorem vx_ctorMade0 (X : Stand p l e R s m₀ args below meth c W locs cells slots) (hexec : p.tables.exec = Jvm.exec) (htr : e.platform.stackTraces = false) {own cls : String} {names : List String} {ic : Nat}
    (hown : s.vm.findClass own = some m₀.cls) (hcls : Bundle.fit cls = true) (hnames : ∀ n ∈ names, Bundle.fit n = true)
    (h : ∀ a ∈ Bundle.ownAtoms0 own ic cls names, a.before args s = true)
    (hlocs : ∀ x ∈ locs, ∀ cell, s.heap[x.base]? = some cell → cell.vm.isStatics = false)
    {a : Addr} {cX : ClassId} {kX : Class} (hfoundX : s.vm.findClass cls = some cX) (hkX : s.vm.classes[cX]? = some kX) (hcell : W.heap[a]? = some (freshCell cX kX)) (hnew : s.heap.size ≤ a)
    {g : JFrame} (hg : g.method = m₀) (hsize : g.locals.size = c.maxLocals) {rest : List Value} (hstack : g.stack = .ref a :: .ref a :: rest)
    (hd6 : decode c.code g.pc = .ok (.invokespecial ic, 3))
    (hRframes : names.length + 3 < R.frames) (hRlocals : 2 * g.monitorRoom + ((Value.ref a :: rest).map fun v => v.category).sum + (13 * (names.length + 1) + 41) ≤ R.locals) :
    ∃ (V : State) (ce : Cell) (L : List Loc), Stand p l e R s m₀ args below meth c (V.setCell a ce) (locs ++ L) cells slots ∧ (∀ y ∈ L, y.base = a) ∧ a < V.heap.size ∧ ce.cls = cX ∧ ce.vm = .none ∧
      ∀ target, Steps p.tables e below ((V.setCell a ce).setTop { g with stack := .ref a :: rest, pc := g.pc + 3 }) target → Steps p.tables e below (W.setTop g) target := by
  have howns : e.platform.frameOwnsMonitors = true := by rw [X.admits.platform]
  have hfin : e.platform.finalization = false := by rw [X.admits.platform]
  have hpl : e.platform.magicAccessors = ({} : Platform).magicAccessors := by rw [X.admits.platform]
  have a' : ∀ x, x ∈ Bundle.ownAtoms0 own ic cls names → x.holds args s none s [] = true := fun x hx => h x hx
  obtain ⟨T, Z, L, LZ, Y⟩ := ThrowableC.of_atoms (args := args) howns hfin hpl (fun x hx => h x (by simp [Bundle.ownAtoms0, hx]))
  obtain ⟨P1, Ps, hlen, L1, hL, hP1m, hlink1, hlink⟩ := Bundle.chain0 (args := args) hpl Y.init0 names cls hcls hnames (fun x hx => h x (by simp [Bundle.ownAtoms0, hx]))
  have hfound : s.vm.findClass cls = some P1.m.cls := findClass_of_methodNamed hP1m
  cases Option.some.inj (hfoundX.symm.trans hfound)
  obtain ⟨c1, kX', hc1, hk, hord, -, -, hn6⟩ := Cond.instantiable_spec (a' (.instantiable cls 6) (by simp [Bundle.ownAtoms0]))
  cases Option.some.inj (hc1.symm.trans hfound)
  cases Option.some.inj (hkX.symm.trans hk)
  have hsel0 : selectMethod e.platform s.vm P1.m.cls T.fill0 = .method T.fill0 := by
    obtain ⟨c2, r2, m2, q1, q2, q3, q4, -⟩ := Cond.selects_spec (a' (.selects cls Bundle.tFill0 Bundle.tFill0) (by simp [Bundle.ownAtoms0]))
    cases Option.some.inj (q1.symm.trans hfound)
    cases Option.some.inj (q2.symm.trans (State.methodFound?_of_named Y.fill0 (by decide)))
    cases Option.some.inj (q3.symm.trans Y.fill0)
    rw [Launch.admits_selectMethod X.admits]; exact q4
  have hselF : selectMethod e.platform s.vm P1.m.cls T.fill = .method T.fill := by
    obtain ⟨c2, r2, m2, q1, q2, q3, q4, -⟩ := Cond.selects_spec (a' (.selects cls Bundle.tFill Bundle.tFill) (by simp [Bundle.ownAtoms0]))
    cases Option.some.inj (q1.symm.trans hfound)
    cases Option.some.inj (q2.symm.trans (State.methodFound?_of_named Y.fill (by decide)))
    cases Option.some.inj (q3.symm.trans Y.fill)
    rw [Launch.admits_selectMethod X.admits]; exact q4
  obtain ⟨cellS0, hcS0, hiss⟩ := Y.statics
  obtain ⟨u0, hu0⟩ := Cond.staticRefV Y.unassigned L.unassignedStatic L.statics hcS0 hiss (a' (.isRef (.static Bundle.tN "UNASSIGNED_STACK" Bundle.steD)) (by simp [Bundle.ownAtoms0]))
  obtain ⟨sen, hsen⟩ := Cond.staticRefV Y.sentinel L.sentinelStatic L.statics hcS0 hiss (a' (.isRef (.static Bundle.tN "SUPPRESSED_SENTINEL" Bundle.listD)) (by simp [Bundle.ownAtoms0]))
  obtain ⟨ci198, i198, fB, hk198, hg198, ha198, hsB, -, hnB, htB, hffB⟩ := Cond.ownField (t := .object "java/lang/Object") Y.found L.cls (by decide +kernel) (a' (.fieldLink Bundle.tN 198 Bundle.tN "backtrace" "Ljava/lang/Object;") (by simp [Bundle.ownAtoms0])) (a' (.lays Bundle.tN Bundle.tN "backtrace" "Ljava/lang/Object;") (by simp [Bundle.ownAtoms0])) e.platform hpl
  obtain ⟨cellS, hcS', heS, -, hkeep⟩ := X.same.2.2.2.2.2 T.aS cellS0 hcS0
  have hcellS : W.heap[T.aS]? = some cellS := hcS'
  have hout' : ∀ i, (⟨T.aS, i⟩ : Loc) ∉ locs := fun i hmem => by
    have := hlocs _ hmem cellS0 hcS0
    rw [hiss] at this; cases this
  have hknownS : cellS.vm ≠ .unknown := by
    rw [heS]; intro hu
    rw [show cellS0.vm = .unknown from hu] at hiss
    cases hiss
  have hneS : T.aS ≠ a := Nat.ne_of_lt (Nat.lt_of_lt_of_le (Array.getElem?_eq_some_iff.mp hcS0).1 hnew)
  obtain ⟨iM, hffM⟩ := Y.msg
  obtain ⟨tyC, dC, hdC, hdnC⟩ := Cond.laysAt hfound hk Y.cause (a' (.lays cls Bundle.tN "cause" "Ljava/lang/Throwable;") (by simp [Bundle.ownAtoms0]))
  obtain ⟨tyS, dS, hdS, hdnS⟩ := Cond.laysAt hfound hk Y.stack (a' (.lays cls Bundle.tN "stackTrace" Bundle.steD) (by simp [Bundle.ownAtoms0]))
  obtain ⟨tyP, dP, hdP, hdnP⟩ := Cond.laysAt hfound hk Y.supp (a' (.lays cls Bundle.tN "suppressedExceptions" Bundle.listD) (by simp [Bundle.ownAtoms0]))
  obtain ⟨tyM, dM, hdM, hdnM⟩ := Cond.laysAt hfound hk hffM (a' (.lays cls Bundle.tN "detailMessage" "Ljava/lang/String;") (by simp [Bundle.ownAtoms0]))
  obtain ⟨tyB, dB, hdB, hdnB⟩ := Cond.laysAt hfound hk hffB (a' (.lays cls Bundle.tN "backtrace" "Ljava/lang/Object;") (by simp [Bundle.ownAtoms0]))
  have bC := Cond.laysApart hdB hdC hdnB hdnC (by rw [hnB, Y.causeName]; decide)
  have bS := Cond.laysApart hdB hdS hdnB hdnS (by rw [hnB, Y.stackName]; decide)
  have bP := Cond.laysApart hdB hdP hdnB hdnP (by rw [hnB, Y.suppName]; decide)
  have hskip : SkipFacts T e.platform s (fun u => u) u0 ((preparedCellV T.toThrowableT (freshCell P1.m.cls kX) a u0 sen).withEntry W.cur) :=
    ⟨{ ci198 := ci198, i198 := i198, fBack := fB }, ⟨hk198, hg198, ha198, hsB⟩, by
      have := fresh_default (c := P1.m.cls) tyB
      rw [htB] at this
      simpa [preparedCellV, Cell.setSlot, Cell.withEntry, Array.getElem?_setIfInBounds, bC, bS, bP, bC.symm, bS.symm, bP.symm, defaultValue] using this, fun _ _ => rfl⟩
  obtain ⟨tm, methC, cdC, kC, vm₁, hnC, -, -, -, -, -, -, -, hW₁, st1⟩ := Steps.initCold (tb := p.tables) (e := e) (below := below) (s := s) (U := W) X.here hexec X.warmed hpl hown (t := Bundle.init0 cls) rfl rfl (Bundle.fit_spec hcls).2
    (a' (.methodLink own ic (Bundle.init0 cls)) (by simp [Bundle.ownAtoms0])) (h (.instanceMethod (Bundle.init0 cls)) (by cases names <;> simp [Bundle.ownAtoms0, Bundle.chain0Atoms, Bundle.passAtoms])) (bytes := Bundle.five) (maxL := 1) (h (.code (Bundle.init0 cls) Bundle.five 1 none) (by cases names <;> simp [Bundle.ownAtoms0, Bundle.chain0Atoms, Bundle.passAtoms]))
    (f := g) hg (a := a) (rest := .ref a :: rest) hstack hd6
  cases Option.some.inj (hnC.symm.trans hP1m)
  have X₁ := X.noted hW₁
  obtain ⟨vm₂, X₂, st2⟩ := X₁.ctorPlainOffV hexec (g := { g with stack := .ref a :: rest }) hg hsize T L Z LZ (P1 :: Ps)
    (fun P hP => by rcases List.mem_cons.mp hP with rfl | hP; exact L1; exact hL P hP) ⟨hlink1, hlink⟩ (u0 := u0) (sen := sen) (self := a) (cell := freshCell P1.m.cls kX) (cellS := cellS)
    hcell (fun _ => by simp) (by simp) rfl rfl hsel0 hselF hcellS hneS hknownS (by rw [hkeep _ (hout' _)]; exact hu0) (by rw [hkeep _ (hout' _)]; exact hsen)
    (Takes.of_laid hk hord tyC (by rw [Y.causeType]; rfl)) (Takes.of_laid hk hord tyS (by rw [Y.stackType]; exact fits_refV_array _ u0)) (Takes.of_laid hk hord tyP (by rw [Y.suppType]; exact fits_refV_object _ sen)) Y.objLocals hskip htr [] hd6
    (by simp only [List.length_cons, hlen]; omega) (by simp only [List.length_cons, hlen]; exact hRlocals)
  have hlt : a < ((W.setVm vm₁).setVm vm₂).heap.size := (Array.getElem?_eq_some_iff.mp hcell).1
  refine ⟨(W.setVm vm₁).setVm vm₂, _, _, X₂, fun y hy => ?_, hlt, rfl, rfl, fun target hwalk => st1 _ (fun acts => ?_)⟩
  · simp only [List.mem_cons, List.not_mem_nil, or_false] at hy
    rcases hy with rfl | rfl | rfl | rfl <;> rfl
  · rw [doInvoke_state]
    exact st2 _ hwalk
end VXK
section VXK2
variable {p : Program} {l : Launch} {e : Env} {R : Room} {s : State} {m : MethodId} {args : Array Value} {below : List Frame} {meth : Method} {c : Code} {H : Heap} {locs : List Loc} {cells slots : Nat} {Q : State → Prop}
variable {ls : Array Slot} {rest : List Value} {D : va_G} {cl : List vw_C} {tys : List (ClassId × FieldType)} {ws : va_W}
/-- 'new E("text")' that isn't thrown at once: the object goes on the stack -/
theorem vx_makeS {cc : ByteArray} {pc : Nat} (hexec : p.tables.exec = Jvm.exec) (hb : c.code = cc) (hl : l.stackTraces = false) {own cls text : String} {names : List String} {ik is ic sa ci : Nat} {A : Nat → Prop} {T0 : u_T}
    (hown : s.vm.findClass own = some m.cls) (hcls : Bundle.fit cls = true) (hnames : ∀ n ∈ names, Bundle.fit n = true)
    (hk : (Cond.classLink own ik cls).before args s = true) (hini : (Cond.initialized cls).before args s = true) (hstr : vk_R own is text sa s) (hat : ∀ w ∈ vx_atS own ic cls names, w.before args s = true)
    (hgood : ∀ w ∈ Cond.classLink own ik cls :: Cond.initialized cls :: vx_atS own ic cls names, vx_ot w = true)
    (hU : vx_Zq Bundle.tN "UNASSIGNED_STACK" Bundle.steD A s s.heap) (hN : vx_Zq Bundle.tN "SUPPRESSED_SENTINEL" Bundle.listD A s s.heap) (hS : va_S A s.heap H locs) (hsize : ls.size = c.maxLocals)
    (d0 : decode cc pc = .ok (.new ik, 3)) (d3 : decode cc (pc + 3) = .ok (.dup, 1)) (d4 : decode cc (pc + 4) = .ok (.ldc is, 2)) (d6 : decode cc (pc + 6) = .ok (.invokespecial ic, 3))
    (hK : va_K D cl tys s) (hP : va_P D cl ws H) (hD : va_D A ws) (hA : ∀ q, s.heap.size ≤ q → A q) (hc : cl[ci]? = some (cls, T0, 0))
    (hRframes : names.length + 3 < R.frames) (hRlocals : (rest.map fun v => v.category).sum + (13 * (names.length + 1) + 43) ≤ R.locals) (hRcells : cells + 1 ≤ R.cells) (hRslots : slots + 6 ≤ R.slots)
    (kk : ∀ (q : Nat) (H1 : Heap), va_P D cl (ws ++ [(q, .inr (ci, []))]) H1 → va_D A (ws ++ [(q, .inr (ci, []))]) → va_S A s.heap H1 locs → W p l e R s m args below meth c H1 locs (cells + 1) (slots + 6) Q (F0 m (pc + 9) ls (.ref q :: rest))) :
    W p l e R s m args below meth c H locs cells slots Q (F0 m pc ls rest) := by
  intro T hT X
  subst hT
  have htr : e.platform.stackTraces = false := (show e.platform.stackTraces = l.stackTraces by rw [X.admits.platform]).trans hl
  have Y := vx_rebase X (R' := { frames := R.frames, locals := R.locals, cells := 1, slots := 6 }) (Nat.le_refl _) (Nat.le_refl _) hRcells hRslots
  obtain ⟨s', hA'⟩ : ∃ z, z = (T.setVm s.vm).setFrames (.invoking m args :: below) := ⟨_, rfl⟩
  rw [← hA'] at Y
  have hvm : s'.vm = s.vm := by rw [hA']; rfl
  have hhp : s'.heap = T.heap := by rw [hA']; rfl
  have hW0 : s.WarmedH s'.vm := by rw [hvm]; exact State.WarmedH.refl s
  have hat' : ∀ w ∈ vx_atS own ic cls names, w.before args s' = true := fun w hw => vx_ot_at hW0 hvm.symm (hgood w (List.mem_cons_of_mem _ (List.mem_cons_of_mem _ hw))) (hat w hw)
  have hk' : (Cond.classLink own ik cls).before args s' = true := vx_ot_at hW0 hvm.symm (hgood _ List.mem_cons_self) hk
  have hini' : (Cond.initialized cls).before args s' = true := vx_ot_at hW0 hvm.symm (hgood _ (List.mem_cons_of_mem _ List.mem_cons_self)) hini
  have hU' : vx_Zq Bundle.tN "UNASSIGNED_STACK" Bundle.steD A s' s'.heap := by rw [hhp]; exact vx_Zq.moved hW0.alike (hU.kept hS.2.1)
  have hN' : vx_Zq Bundle.tN "SUPPRESSED_SENTINEL" Bundle.listD A s' s'.heap := by rw [hhp]; exact vx_Zq.moved hW0.alike (hN.kept hS.2.1)
  have h : ∀ w ∈ Bundle.ownAtoms own ic cls names, w.before args s' = true := vx_own hat' (vx_isRefq hU'.1) (vx_isRefq hN'.1) hU'.2.word hN'.2.word
  have hown' : s'.vm.findClass own = some m.cls := by rw [hvm]; exact hown
  have hins : (Cond.instantiable cls 6).before args s' = true := h _ (by simp [Bundle.ownAtoms])
  obtain ⟨vm₁, cX, kX, hfX, hkX, -, -, X₁, st1⟩ := Y.newCold hexec (own := own) (C := cls) (index := ik) (n := 6) hown' hk' hins hini'
    (g := F0 m pc ls rest) rfl (by rw [hb]; exact d0) (Nat.le_refl _) (Nat.le_refl _)
  generalize hT1 : (T.setVm vm₁).pushCell { cls := cX, slots := kX.instanceTypes.map defaultValue, vm := .none } = T1 at X₁ st1
  have hcat : (Value.ref T.heap.size).category = 1 := rfl
  have hcellA : T1.heap[T.heap.size]? = some (freshCell cX kX) := by rw [← hT1]; exact State.heap_pushCell_size _ _
  have d3' : decode c.code (pc + 3) = .ok (.dup, 1) := by rw [hb]; exact d3
  have d4' : decode c.code (pc + 4) = .ok (.ldc is, 2) := by rw [hb]; exact d4
  have hstr' : vk_R own is text sa s' := vk_R.warm hW0 hstr
  obtain ⟨V, ce, L, Z, hL, hlt, hcl9, hvm9, st⟩ := vx_ctorMadeS X₁ hexec htr (own := own) (cls := cls) (names := names) (ic := ic) hown' hcls hnames h (fun x hx => nomatch hx) hfX hkX hcellA (by rw [hhp]; exact Nat.le_refl _) (msg := .ref sa) rfl
    (g := { method := m, pc := pc + 6, locals := ls, stack := .ref sa :: .ref T.heap.size :: .ref T.heap.size :: rest, locked := none }) rfl hsize (rest := rest) rfl
    (by rw [hb]; exact d6) hRframes (by simp only [List.map_cons, List.sum_cons, hcat]; omega)
  have Z0 := Stand.forget (locs := []) Z (fun y hy => by rw [hL y hy, hhp]; exact Nat.le_refl _)
  obtain ⟨f1, f2⟩ := vx_frame Z0.same
  rw [hhp] at f1 f2
  have hcid : ce.cls = D.1 ci := by
    rw [hcl9]
    have h1 := (hK.1 ci _ hc).2.1
    rw [hvm] at hfX
    exact Option.some.inj (hfX.symm.trans h1)
  have hh : (V.setCell T.heap.size ce).heap[T.heap.size]? = some ce := heapAt_setCell_self (s := V) ce hlt
  subst hA'
  have X5 := vx_back9 X Y Z0
  have X6 : Stand p l e R s m args below meth c (V.setCell T.heap.size ce) locs (cells + 1) (slots + 6) := { X5 with same := X5.same.mono (by omega) (by omega) }
  have hk9 : ∀ (k : Nat) (x : Nat × va_E), ws[k]? = some x → (V.setCell T.heap.size ce).heap[x.1]? = T.heap[x.1]? := fun k x hx => f2 x.1 ((hP k x hx).lt) (fun z hz => nomatch hz)
  obtain ⟨t, a1, b1⟩ := kk T.heap.size (V.setCell T.heap.size ce).heap ((hP.kept hk9).app (fun k x hx => by
      have hz : k < 1 := (List.getElem?_eq_some_iff.mp hx).1
      rw [show k = 0 by omega] at hx
      cases hx
      exact ⟨_, hc, ce, hh, hcid, hvm9, fun k hk => absurd hk (Nat.not_lt_zero k)⟩)) (hD.push hP rfl (hA _ hS.1)) ⟨Nat.le_trans hS.1 f1, fun q h1 h2 => (f2 q (Nat.lt_of_lt_of_le h1 hS.1) (fun z hz => nomatch hz)).trans (hS.2.1 q h1 h2), hS.2.2⟩ _ rfl X6
  refine ⟨t, st1 _ ?_, b1⟩
  show Steps p.tables e below (T1.setTop { method := m, pc := pc + 3, locals := ls, stack := .ref T.heap.size :: rest, locked := none }) _
  jvm_step X₁.here [X₁.here.top, hexec, d3', Value.category]
  exact X₁.ldcString hexec (own := own) (text := text) (index := is) (a := sa) hown' hstr'.1 hstr'.2
    (g := { method := m, pc := pc + 4, locals := ls, stack := .ref T.heap.size :: .ref T.heap.size :: rest, locked := none }) rfl d4' _ (st _ a1)
/-- 'new E()' that isn't thrown at once: the object goes on the stack -/
theorem vx_make0 {cc : ByteArray} {pc : Nat} (hexec : p.tables.exec = Jvm.exec) (hb : c.code = cc) (hl : l.stackTraces = false) {own cls : String} {names : List String} {ik ic ci : Nat} {A : Nat → Prop} {T0 : u_T}
    (hown : s.vm.findClass own = some m.cls) (hcls : Bundle.fit cls = true) (hnames : ∀ n ∈ names, Bundle.fit n = true)
    (hk : (Cond.classLink own ik cls).before args s = true) (hini : (Cond.initialized cls).before args s = true) (hat : ∀ w ∈ vx_at0 own ic cls names, w.before args s = true)
    (hgood : ∀ w ∈ Cond.classLink own ik cls :: Cond.initialized cls :: vx_at0 own ic cls names, vx_ot w = true)
    (hU : vx_Zq Bundle.tN "UNASSIGNED_STACK" Bundle.steD A s s.heap) (hN : vx_Zq Bundle.tN "SUPPRESSED_SENTINEL" Bundle.listD A s s.heap) (hS : va_S A s.heap H locs) (hsize : ls.size = c.maxLocals)
    (d0 : decode cc pc = .ok (.new ik, 3)) (d3 : decode cc (pc + 3) = .ok (.dup, 1)) (d4 : decode cc (pc + 4) = .ok (.invokespecial ic, 3))
    (hK : va_K D cl tys s) (hP : va_P D cl ws H) (hD : va_D A ws) (hA : ∀ q, s.heap.size ≤ q → A q) (hc : cl[ci]? = some (cls, T0, 0))
    (hRframes : names.length + 3 < R.frames) (hRlocals : (rest.map fun v => v.category).sum + (13 * (names.length + 1) + 42) ≤ R.locals) (hRcells : cells + 1 ≤ R.cells) (hRslots : slots + 6 ≤ R.slots)
    (kk : ∀ (q : Nat) (H1 : Heap), va_P D cl (ws ++ [(q, .inr (ci, []))]) H1 → va_D A (ws ++ [(q, .inr (ci, []))]) → va_S A s.heap H1 locs → W p l e R s m args below meth c H1 locs (cells + 1) (slots + 6) Q (F0 m (pc + 7) ls (.ref q :: rest))) :
    W p l e R s m args below meth c H locs cells slots Q (F0 m pc ls rest) := by
  intro T hT X
  subst hT
  have htr : e.platform.stackTraces = false := (show e.platform.stackTraces = l.stackTraces by rw [X.admits.platform]).trans hl
  have Y := vx_rebase X (R' := { frames := R.frames, locals := R.locals, cells := 1, slots := 6 }) (Nat.le_refl _) (Nat.le_refl _) hRcells hRslots
  obtain ⟨s', hA'⟩ : ∃ z, z = (T.setVm s.vm).setFrames (.invoking m args :: below) := ⟨_, rfl⟩
  rw [← hA'] at Y
  have hvm : s'.vm = s.vm := by rw [hA']; rfl
  have hhp : s'.heap = T.heap := by rw [hA']; rfl
  have hW0 : s.WarmedH s'.vm := by rw [hvm]; exact State.WarmedH.refl s
  have hat' : ∀ w ∈ vx_at0 own ic cls names, w.before args s' = true := fun w hw => vx_ot_at hW0 hvm.symm (hgood w (List.mem_cons_of_mem _ (List.mem_cons_of_mem _ hw))) (hat w hw)
  have hk' : (Cond.classLink own ik cls).before args s' = true := vx_ot_at hW0 hvm.symm (hgood _ List.mem_cons_self) hk
  have hini' : (Cond.initialized cls).before args s' = true := vx_ot_at hW0 hvm.symm (hgood _ (List.mem_cons_of_mem _ List.mem_cons_self)) hini
  have hU' : vx_Zq Bundle.tN "UNASSIGNED_STACK" Bundle.steD A s' s'.heap := by rw [hhp]; exact vx_Zq.moved hW0.alike (hU.kept hS.2.1)
  have hN' : vx_Zq Bundle.tN "SUPPRESSED_SENTINEL" Bundle.listD A s' s'.heap := by rw [hhp]; exact vx_Zq.moved hW0.alike (hN.kept hS.2.1)
  have h : ∀ w ∈ Bundle.ownAtoms0 own ic cls names, w.before args s' = true := vx_own hat' (vx_isRefq hU'.1) (vx_isRefq hN'.1) hU'.2.word hN'.2.word
  have hown' : s'.vm.findClass own = some m.cls := by rw [hvm]; exact hown
  have hins : (Cond.instantiable cls 6).before args s' = true := h _ (by simp [Bundle.ownAtoms0])
  obtain ⟨vm₁, cX, kX, hfX, hkX, -, -, X₁, st1⟩ := Y.newCold hexec (own := own) (C := cls) (index := ik) (n := 6) hown' hk' hins hini'
    (g := F0 m pc ls rest) rfl (by rw [hb]; exact d0) (Nat.le_refl _) (Nat.le_refl _)
  generalize hT1 : (T.setVm vm₁).pushCell { cls := cX, slots := kX.instanceTypes.map defaultValue, vm := .none } = T1 at X₁ st1
  have hcat : (Value.ref T.heap.size).category = 1 := rfl
  have hcellA : T1.heap[T.heap.size]? = some (freshCell cX kX) := by rw [← hT1]; exact State.heap_pushCell_size _ _
  have d3' : decode c.code (pc + 3) = .ok (.dup, 1) := by rw [hb]; exact d3
  obtain ⟨V, ce, L, Z, hL, hlt, hcl9, hvm9, st⟩ := vx_ctorMade0 X₁ hexec htr (own := own) (cls := cls) (names := names) (ic := ic) hown' hcls hnames h (fun x hx => nomatch hx) hfX hkX hcellA (by rw [hhp]; exact Nat.le_refl _)
    (g := { method := m, pc := pc + 4, locals := ls, stack := .ref T.heap.size :: .ref T.heap.size :: rest, locked := none }) rfl hsize (rest := rest) rfl
    (by rw [hb]; exact d4) hRframes (by simp only [List.map_cons, List.sum_cons, hcat]; omega)
  have Z0 := Stand.forget (locs := []) Z (fun y hy => by rw [hL y hy, hhp]; exact Nat.le_refl _)
  obtain ⟨f1, f2⟩ := vx_frame Z0.same
  rw [hhp] at f1 f2
  have hcid : ce.cls = D.1 ci := by
    rw [hcl9]
    have h1 := (hK.1 ci _ hc).2.1
    rw [hvm] at hfX
    exact Option.some.inj (hfX.symm.trans h1)
  have hh : (V.setCell T.heap.size ce).heap[T.heap.size]? = some ce := heapAt_setCell_self (s := V) ce hlt
  subst hA'
  have X5 := vx_back9 X Y Z0
  have X6 : Stand p l e R s m args below meth c (V.setCell T.heap.size ce) locs (cells + 1) (slots + 6) := { X5 with same := X5.same.mono (by omega) (by omega) }
  have hk9 : ∀ (k : Nat) (x : Nat × va_E), ws[k]? = some x → (V.setCell T.heap.size ce).heap[x.1]? = T.heap[x.1]? := fun k x hx => f2 x.1 ((hP k x hx).lt) (fun z hz => nomatch hz)
  obtain ⟨t, a1, b1⟩ := kk T.heap.size (V.setCell T.heap.size ce).heap ((hP.kept hk9).app (fun k x hx => by
      have hz : k < 1 := (List.getElem?_eq_some_iff.mp hx).1
      rw [show k = 0 by omega] at hx
      cases hx
      exact ⟨_, hc, ce, hh, hcid, hvm9, fun k hk => absurd hk (Nat.not_lt_zero k)⟩)) (hD.push hP rfl (hA _ hS.1)) ⟨Nat.le_trans hS.1 f1, fun q h1 h2 => (f2 q (Nat.lt_of_lt_of_le h1 hS.1) (fun z hz => nomatch hz)).trans (hS.2.1 q h1 h2), hS.2.2⟩ _ rfl X6
  refine ⟨t, st1 _ ?_, b1⟩
  show Steps p.tables e below (T1.setTop { method := m, pc := pc + 3, locals := ls, stack := .ref T.heap.size :: rest, locked := none }) _
  jvm_step X₁.here [X₁.here.top, hexec, d3', Value.category]
  exact st _ a1
/-- 'throw x' of an object that was made before -/
theorem vx_athrow {cc : ByteArray} {pc : Nat} (hexec : p.tables.exec = Jvm.exec) (hb : c.code = cc) {q : Addr} (hdg : decode cc pc = .ok (.athrow, 1)) (k : vx_W p l e R s m args below meth c H locs cells slots Q (F0 m pc ls rest) q) : W p l e R s m args below meth c H locs cells slots Q (F0 m pc ls (.ref q :: rest)) := by
  intro T hT X
  obtain ⟨t, st, hq⟩ := k T hT X
  refine ⟨t, ?_, hq⟩
  have hdg' : decode c.code pc = .ok (.athrow, 1) := by rw [hb]; exact hdg
  jvm_step X.here [X.here.top, hexec, hdg', athrow.wp_sem]
  exact st
end VXK2
/-! ===== END ===== -/
end
section
def RX0 : String := "LampLeaseOffice$1"
def TX0 : u_T := fun k => match k with
  | _ => ("", "", "", false)
def tyX0 : Nat → FieldType := fun k => match k with
  | _ => .int
theorem nmX0 : ∀ a, a < 0 → ∀ b, b < 0 → a ≠ b → (TX0 a).2.1 ≠ (TX0 b).2.1 := by decide +kernel
theorem tyX0_ok : ∀ k, k < 0 → parseFieldDescriptor (TX0 k).2.2.1 = some (tyX0 k) := by decide +kernel
def RX1 : String := "LampLeaseOffice$Command"
def TX1 : u_T := fun k => match k with
  | 0 => ("LampLeaseOffice$Command", "keyword", "LLampLeaseOffice$Keyword;", false)
  | _ => ("LampLeaseOffice$Command", "numbers", "[I", true)
def tyX1 : Nat → FieldType := fun k => match k with
  | 0 => .object "LampLeaseOffice$Keyword"
  | _ => .array .int
theorem nmX1 : ∀ a, a < 2 → ∀ b, b < 2 → a ≠ b → (TX1 a).2.1 ≠ (TX1 b).2.1 := by decide +kernel
theorem tyX1_ok : ∀ k, k < 2 → parseFieldDescriptor (TX1 k).2.2.1 = some (tyX1 k) := by decide +kernel
abbrev cX1_init : ByteArray := prog_3_method_1_code
def yX1_init : MethodName := ⟨RX1, "<init>", "()V"⟩
abbrev cX1_first : ByteArray := prog_3_method_2_code
def yX1_first : MethodName := ⟨RX1, "first", "()I"⟩
abbrev cX1_second : ByteArray := prog_3_method_3_code
def yX1_second : MethodName := ⟨RX1, "second", "()I"⟩
abbrev cX1_third : ByteArray := prog_3_method_4_code
def yX1_third : MethodName := ⟨RX1, "third", "()I"⟩
abbrev cX1_put : ByteArray := prog_3_method_5_code
def yX1_put : MethodName := ⟨RX1, "put", "(II)V"⟩
def RX2 : String := "LampLeaseOffice$CommandText"
def TX2 : u_T := fun k => match k with
  | 0 => ("LampLeaseOffice$CommandText", "signs", "[C", true)
  | 1 => ("LampLeaseOffice$CommandText", "commands", "[LLampLeaseOffice$Command;", true)
  | 2 => ("LampLeaseOffice$CommandText", "length", "I", false)
  | 3 => ("LampLeaseOffice$CommandText", "commandCount", "I", false)
  | _ => ("LampLeaseOffice$CommandText", "position", "I", false)
def tyX2 : Nat → FieldType := fun k => match k with
  | 0 => .array .char
  | 1 => .array (.object "LampLeaseOffice$Command")
  | 2 => .int
  | 3 => .int
  | _ => .int
theorem nmX2 : ∀ a, a < 5 → ∀ b, b < 5 → a ≠ b → (TX2 a).2.1 ≠ (TX2 b).2.1 := by decide +kernel
theorem tyX2_ok : ∀ k, k < 5 → parseFieldDescriptor (TX2 k).2.2.1 = some (tyX2 k) := by decide +kernel
abbrev cX2_init : ByteArray := prog_4_method_1_code
def yX2_init : MethodName := ⟨RX2, "<init>", "()V"⟩
abbrev cX2_append : ByteArray := prog_4_method_2_code
def yX2_append : MethodName := ⟨RX2, "append", "(C)I"⟩
abbrev cX2_clear : ByteArray := prog_4_method_3_code
def yX2_clear : MethodName := ⟨RX2, "clear", "()V"⟩
abbrev cX2_parse : ByteArray := prog_4_method_4_code
def yX2_parse : MethodName := ⟨RX2, "parse", "()Z"⟩
abbrev cX2_readCommand : ByteArray := prog_4_method_5_code
def yX2_readCommand : MethodName := ⟨RX2, "readCommand", "(LLampLeaseOffice$Command;)Z"⟩
abbrev cX2_readKeyword : ByteArray := prog_4_method_6_code
def yX2_readKeyword : MethodName := ⟨RX2, "readKeyword", "()LLampLeaseOffice$Keyword;"⟩
abbrev cX2_commonLetters : ByteArray := prog_4_method_7_code
def yX2_commonLetters : MethodName := ⟨RX2, "commonLetters", "(Ljava/lang/String;)I"⟩
abbrev cX2_readBlankAndNumber : ByteArray := prog_4_method_8_code
def yX2_readBlankAndNumber : MethodName := ⟨RX2, "readBlankAndNumber", "(I)I"⟩
abbrev cX2_isAt : ByteArray := prog_4_method_9_code
def yX2_isAt : MethodName := ⟨RX2, "isAt", "(C)Z"⟩
abbrev cX2_isAtDigit : ByteArray := prog_4_method_10_code
def yX2_isAtDigit : MethodName := ⟨RX2, "isAtDigit", "()Z"⟩
def RX3 : String := "LampLeaseOffice$Division"
def TX3 : u_T := fun k => match k with
  | 0 => ("LampLeaseOffice$Division", "shares", "[I", true)
  | 1 => ("LampLeaseOffice$Division", "remainders", "[I", true)
  | 2 => ("LampLeaseOffice$Division", "favoured", "[Z", true)
  | _ => ("LampLeaseOffice$Division", "unitsLeft", "I", false)
def tyX3 : Nat → FieldType := fun k => match k with
  | 0 => .array .int
  | 1 => .array .int
  | 2 => .array .boolean
  | _ => .int
theorem nmX3 : ∀ a, a < 4 → ∀ b, b < 4 → a ≠ b → (TX3 a).2.1 ≠ (TX3 b).2.1 := by decide +kernel
theorem tyX3_ok : ∀ k, k < 4 → parseFieldDescriptor (TX3 k).2.2.1 = some (tyX3 k) := by decide +kernel
abbrev cX3_init : ByteArray := prog_5_method_1_code
def yX3_init : MethodName := ⟨RX3, "<init>", "()V"⟩
abbrev cX3_shareByGiving : ByteArray := prog_5_method_2_code
def yX3_shareByGiving : MethodName := ⟨RX3, "shareByGiving", "(LLampLeaseOffice$State;I)I"⟩
abbrev cX3_shareByRemainderRank : ByteArray := prog_5_method_3_code
def yX3_shareByRemainderRank : MethodName := ⟨RX3, "shareByRemainderRank", "(LLampLeaseOffice$State;I)I"⟩
abbrev cX3_divideRoundedDown : ByteArray := prog_5_method_4_code
def yX3_divideRoundedDown : MethodName := ⟨RX3, "divideRoundedDown", "(LLampLeaseOffice$State;)V"⟩
abbrev cX3_giveOneUnit : ByteArray := prog_5_method_5_code
def yX3_giveOneUnit : MethodName := ⟨RX3, "giveOneUnit", "(I)V"⟩
abbrev cX3_rankOf : ByteArray := prog_5_method_6_code
def yX3_rankOf : MethodName := ⟨RX3, "rankOf", "(II)I"⟩
def RX4 : String := "LampLeaseOffice$Forecast"
def TX4 : u_T := fun k => match k with
  | _ => ("LampLeaseOffice$Forecast", "mostForSum", "[I", true)
def tyX4 : Nat → FieldType := fun k => match k with
  | _ => .array .int
theorem nmX4 : ∀ a, a < 1 → ∀ b, b < 1 → a ≠ b → (TX4 a).2.1 ≠ (TX4 b).2.1 := by decide +kernel
theorem tyX4_ok : ∀ k, k < 1 → parseFieldDescriptor (TX4 k).2.2.1 = some (tyX4 k) := by decide +kernel
abbrev cX4_init : ByteArray := prog_6_method_1_code
def yX4_init : MethodName := ⟨RX4, "<init>", "()V"⟩
abbrev cX4_hoursByPassing : ByteArray := prog_6_method_2_code
def yX4_hoursByPassing : MethodName := ⟨RX4, "hoursByPassing", "(LLampLeaseOffice$State;)I"⟩
abbrev cX4_hoursByEndHours : ByteArray := prog_6_method_3_code
def yX4_hoursByEndHours : MethodName := ⟨RX4, "hoursByEndHours", "(LLampLeaseOffice$State;)I"⟩
abbrev cX4_nextBrightLamps : ByteArray := prog_6_method_4_code
def yX4_nextBrightLamps : MethodName := ⟨RX4, "nextBrightLamps", "(LLampLeaseOffice$State;)I"⟩
abbrev cX4_mostLampsByLevels : ByteArray := prog_6_method_5_code
def yX4_mostLampsByLevels : MethodName := ⟨RX4, "mostLampsByLevels", "(LLampLeaseOffice$State;)I"⟩
abbrev cX4_mostLampsByTable : ByteArray := prog_6_method_6_code
def yX4_mostLampsByTable : MethodName := ⟨RX4, "mostLampsByTable", "(LLampLeaseOffice$State;)I"⟩
abbrev cX4_clearTable : ByteArray := prog_6_method_7_code
def yX4_clearTable : MethodName := ⟨RX4, "clearTable", "()V"⟩
abbrev cX4_enterInTable : ByteArray := prog_6_method_8_code
def yX4_enterInTable : MethodName := ⟨RX4, "enterInTable", "(I)V"⟩
def RX5 : String := "LampLeaseOffice$History"
def TX5 : u_T := fun k => match k with
  | 0 => ("LampLeaseOffice$History", "ring", "[LLampLeaseOffice$State;", true)
  | 1 => ("LampLeaseOffice$History", "oldest", "I", false)
  | _ => ("LampLeaseOffice$History", "count", "I", false)
def tyX5 : Nat → FieldType := fun k => match k with
  | 0 => .array (.object "LampLeaseOffice$State")
  | 1 => .int
  | _ => .int
theorem nmX5 : ∀ a, a < 3 → ∀ b, b < 3 → a ≠ b → (TX5 a).2.1 ≠ (TX5 b).2.1 := by decide +kernel
theorem tyX5_ok : ∀ k, k < 3 → parseFieldDescriptor (TX5 k).2.2.1 = some (tyX5 k) := by decide +kernel
abbrev cX5_init : ByteArray := prog_7_method_1_code
def yX5_init : MethodName := ⟨RX5, "<init>", "()V"⟩
abbrev cX5_push : ByteArray := prog_7_method_2_code
def yX5_push : MethodName := ⟨RX5, "push", "(LLampLeaseOffice$State;)V"⟩
abbrev cX5_popInto : ByteArray := prog_7_method_3_code
def yX5_popInto : MethodName := ⟨RX5, "popInto", "(LLampLeaseOffice$State;)V"⟩
abbrev cX5_clear : ByteArray := prog_7_method_4_code
def yX5_clear : MethodName := ⟨RX5, "clear", "()V"⟩
def RX6 : String := "LampLeaseOffice$Keyword"
def TX6 : u_T := fun k => match k with
  | _ => ("", "", "", false)
def tyX6 : Nat → FieldType := fun k => match k with
  | _ => .int
theorem nmX6 : ∀ a, a < 0 → ∀ b, b < 0 → a ≠ b → (TX6 a).2.1 ≠ (TX6 b).2.1 := by decide +kernel
theorem tyX6_ok : ∀ k, k < 0 → parseFieldDescriptor (TX6 k).2.2.1 = some (tyX6 k) := by decide +kernel
def RX7 : String := "LampLeaseOffice$Lamps"
def TX7 : u_T := fun k => match k with
  | 0 => ("LampLeaseOffice$Lamps", "count", "I", false)
  | 1 => ("LampLeaseOffice$Lamps", "levels", "[I", true)
  | 2 => ("LampLeaseOffice$Lamps", "lessees", "[I", true)
  | 3 => ("LampLeaseOffice$Lamps", "endHours", "[I", true)
  | 4 => ("LampLeaseOffice$Lamps", "brightHours", "[I", true)
  | _ => ("LampLeaseOffice$Lamps", "bright", "[Z", true)
def tyX7 : Nat → FieldType := fun k => match k with
  | 0 => .int
  | 1 => .array .int
  | 2 => .array .int
  | 3 => .array .int
  | 4 => .array .int
  | _ => .array .boolean
theorem nmX7 : ∀ a, a < 6 → ∀ b, b < 6 → a ≠ b → (TX7 a).2.1 ≠ (TX7 b).2.1 := by decide +kernel
theorem tyX7_ok : ∀ k, k < 6 → parseFieldDescriptor (TX7 k).2.2.1 = some (tyX7 k) := by decide +kernel
abbrev cX7_init : ByteArray := prog_9_method_1_code
def yX7_init : MethodName := ⟨RX7, "<init>", "()V"⟩
abbrev cX7_exists : ByteArray := prog_9_method_2_code
def yX7_exists : MethodName := ⟨RX7, "exists", "(I)Z"⟩
abbrev cX7_isTaken : ByteArray := prog_9_method_3_code
def yX7_isTaken : MethodName := ⟨RX7, "isTaken", "(I)Z"⟩
abbrev cX7_isTakenBy : ByteArray := prog_9_method_4_code
def yX7_isTakenBy : MethodName := ⟨RX7, "isTakenBy", "(II)Z"⟩
abbrev cX7_append : ByteArray := prog_9_method_5_code
def yX7_append : MethodName := ⟨RX7, "append", "(I)I"⟩
abbrev cX7_countTaken : ByteArray := prog_9_method_6_code
def yX7_countTaken : MethodName := ⟨RX7, "countTaken", "()I"⟩
abbrev cX7_countOf : ByteArray := prog_9_method_7_code
def yX7_countOf : MethodName := ⟨RX7, "countOf", "(I)I"⟩
abbrev cX7_anyBrightOf : ByteArray := prog_9_method_8_code
def yX7_anyBrightOf : MethodName := ⟨RX7, "anyBrightOf", "(I)Z"⟩
abbrev cX7_demandOf : ByteArray := prog_9_method_9_code
def yX7_demandOf : MethodName := ⟨RX7, "demandOf", "(I)I"⟩
abbrev cX7_demandOfAll : ByteArray := prog_9_method_10_code
def yX7_demandOfAll : MethodName := ⟨RX7, "demandOfAll", "()I"⟩
abbrev cX7_demandAfter : ByteArray := prog_9_method_11_code
def yX7_demandAfter : MethodName := ⟨RX7, "demandAfter", "(I)I"⟩
abbrev cX7_firstEndAfter : ByteArray := prog_9_method_12_code
def yX7_firstEndAfter : MethodName := ⟨RX7, "firstEndAfter", "(I)I"⟩
abbrev cX7_atRank : ByteArray := prog_9_method_13_code
def yX7_atRank : MethodName := ⟨RX7, "atRank", "(I)I"⟩
abbrev cX7_rankOf : ByteArray := prog_9_method_14_code
def yX7_rankOf : MethodName := ⟨RX7, "rankOf", "(I)I"⟩
abbrev cX7_isBefore : ByteArray := prog_9_method_15_code
def yX7_isBefore : MethodName := ⟨RX7, "isBefore", "(II)Z"⟩
abbrev cX7_copyFrom : ByteArray := prog_9_method_16_code
def yX7_copyFrom : MethodName := ⟨RX7, "copyFrom", "(LLampLeaseOffice$Lamps;)V"⟩
def RX8 : String := "LampLeaseOffice$Requests"
def TX8 : u_T := fun k => match k with
  | 0 => ("LampLeaseOffice$Requests", "count", "I", false)
  | 1 => ("LampLeaseOffice$Requests", "lamps", "[I", true)
  | _ => ("LampLeaseOffice$Requests", "hours", "[I", true)
def tyX8 : Nat → FieldType := fun k => match k with
  | 0 => .int
  | 1 => .array .int
  | _ => .array .int
theorem nmX8 : ∀ a, a < 3 → ∀ b, b < 3 → a ≠ b → (TX8 a).2.1 ≠ (TX8 b).2.1 := by decide +kernel
theorem tyX8_ok : ∀ k, k < 3 → parseFieldDescriptor (TX8 k).2.2.1 = some (tyX8 k) := by decide +kernel
abbrev cX8_init : ByteArray := prog_10_method_1_code
def yX8_init : MethodName := ⟨RX8, "<init>", "()V"⟩
abbrev cX8_positionOf : ByteArray := prog_10_method_2_code
def yX8_positionOf : MethodName := ⟨RX8, "positionOf", "(I)I"⟩
abbrev cX8_append : ByteArray := prog_10_method_3_code
def yX8_append : MethodName := ⟨RX8, "append", "(II)I"⟩
abbrev cX8_removeFor : ByteArray := prog_10_method_4_code
def yX8_removeFor : MethodName := ⟨RX8, "removeFor", "(I)V"⟩
abbrev cX8_clear : ByteArray := prog_10_method_5_code
def yX8_clear : MethodName := ⟨RX8, "clear", "()V"⟩
abbrev cX8_copyFrom : ByteArray := prog_10_method_6_code
def yX8_copyFrom : MethodName := ⟨RX8, "copyFrom", "(LLampLeaseOffice$Requests;)V"⟩
def RX9 : String := "LampLeaseOffice$Ships"
def TX9 : u_T := fun k => match k with
  | 0 => ("LampLeaseOffice$Ships", "count", "I", false)
  | 1 => ("LampLeaseOffice$Ships", "coins", "[I", true)
  | 2 => ("LampLeaseOffice$Ships", "fines", "[I", true)
  | _ => ("LampLeaseOffice$Ships", "darkHours", "[I", true)
def tyX9 : Nat → FieldType := fun k => match k with
  | 0 => .int
  | 1 => .array .int
  | 2 => .array .int
  | _ => .array .int
theorem nmX9 : ∀ a, a < 4 → ∀ b, b < 4 → a ≠ b → (TX9 a).2.1 ≠ (TX9 b).2.1 := by decide +kernel
theorem tyX9_ok : ∀ k, k < 4 → parseFieldDescriptor (TX9 k).2.2.1 = some (tyX9 k) := by decide +kernel
abbrev cX9_init : ByteArray := prog_11_method_1_code
def yX9_init : MethodName := ⟨RX9, "<init>", "()V"⟩
abbrev cX9_exists : ByteArray := prog_11_method_2_code
def yX9_exists : MethodName := ⟨RX9, "exists", "(I)Z"⟩
abbrev cX9_append : ByteArray := prog_11_method_3_code
def yX9_append : MethodName := ⟨RX9, "append", "()I"⟩
abbrev cX9_canPay : ByteArray := prog_11_method_4_code
def yX9_canPay : MethodName := ⟨RX9, "canPay", "(II)Z"⟩
abbrev cX9_sumOfCoins : ByteArray := prog_11_method_5_code
def yX9_sumOfCoins : MethodName := ⟨RX9, "sumOfCoins", "()I"⟩
abbrev cX9_atRank : ByteArray := prog_11_method_6_code
def yX9_atRank : MethodName := ⟨RX9, "atRank", "(I)I"⟩
abbrev cX9_rankOf : ByteArray := prog_11_method_7_code
def yX9_rankOf : MethodName := ⟨RX9, "rankOf", "(I)I"⟩
abbrev cX9_isBefore : ByteArray := prog_11_method_8_code
def yX9_isBefore : MethodName := ⟨RX9, "isBefore", "(II)Z"⟩
abbrev cX9_copyFrom : ByteArray := prog_11_method_9_code
def yX9_copyFrom : MethodName := ⟨RX9, "copyFrom", "(LLampLeaseOffice$Ships;)V"⟩
def RX10 : String := "LampLeaseOffice$State"
def TX10 : u_T := fun k => match k with
  | 0 => ("LampLeaseOffice$State", "ships", "LLampLeaseOffice$Ships;", true)
  | 1 => ("LampLeaseOffice$State", "lamps", "LLampLeaseOffice$Lamps;", true)
  | 2 => ("LampLeaseOffice$State", "requests", "LLampLeaseOffice$Requests;", true)
  | 3 => ("LampLeaseOffice$State", "oil", "I", false)
  | 4 => ("LampLeaseOffice$State", "hour", "I", false)
  | 5 => ("LampLeaseOffice$State", "officeCoins", "I", false)
  | _ => ("LampLeaseOffice$State", "refused", "I", false)
def tyX10 : Nat → FieldType := fun k => match k with
  | 0 => .object "LampLeaseOffice$Ships"
  | 1 => .object "LampLeaseOffice$Lamps"
  | 2 => .object "LampLeaseOffice$Requests"
  | 3 => .int
  | 4 => .int
  | 5 => .int
  | _ => .int
theorem nmX10 : ∀ a, a < 7 → ∀ b, b < 7 → a ≠ b → (TX10 a).2.1 ≠ (TX10 b).2.1 := by decide +kernel
theorem tyX10_ok : ∀ k, k < 7 → parseFieldDescriptor (TX10 k).2.2.1 = some (tyX10 k) := by decide +kernel
abbrev cX10_init : ByteArray := prog_12_method_1_code
def yX10_init : MethodName := ⟨RX10, "<init>", "()V"⟩
abbrev cX10_faultOfNewShip : ByteArray := prog_12_method_2_code
def yX10_faultOfNewShip : MethodName := ⟨RX10, "faultOfNewShip", "()C"⟩
abbrev cX10_faultOfNewLamp : ByteArray := prog_12_method_3_code
def yX10_faultOfNewLamp : MethodName := ⟨RX10, "faultOfNewLamp", "(I)C"⟩
abbrev cX10_faultOfNewOil : ByteArray := prog_12_method_4_code
def yX10_faultOfNewOil : MethodName := ⟨RX10, "faultOfNewOil", "(I)C"⟩
abbrev cX10_faultOfLease : ByteArray := prog_12_method_5_code
def yX10_faultOfLease : MethodName := ⟨RX10, "faultOfLease", "(III)C"⟩
abbrev cX10_faultOfRequest : ByteArray := prog_12_method_6_code
def yX10_faultOfRequest : MethodName := ⟨RX10, "faultOfRequest", "(II)C"⟩
abbrev cX10_faultOfUnleased : ByteArray := prog_12_method_7_code
def yX10_faultOfUnleased : MethodName := ⟨RX10, "faultOfUnleased", "(I)C"⟩
abbrev cX10_faultOfWait : ByteArray := prog_12_method_8_code
def yX10_faultOfWait : MethodName := ⟨RX10, "faultOfWait", "(I)C"⟩
abbrev cX10_isNoLeaseTime : ByteArray := prog_12_method_9_code
def yX10_isNoLeaseTime : MethodName := ⟨RX10, "isNoLeaseTime", "(I)Z"⟩
abbrev cX10_price : ByteArray := prog_12_method_10_code
def yX10_price : MethodName := ⟨RX10, "price", "(II)I"⟩
abbrev cX10_fillUp : ByteArray := prog_12_method_11_code
def yX10_fillUp : MethodName := ⟨RX10, "fillUp", "(I)I"⟩
abbrev cX10_leaseOut : ByteArray := prog_12_method_12_code
def yX10_leaseOut : MethodName := ⟨RX10, "leaseOut", "(III)I"⟩
abbrev cX10_payOffice : ByteArray := prog_12_method_13_code
def yX10_payOffice : MethodName := ⟨RX10, "payOffice", "(II)V"⟩
abbrev cX10_takeBack : ByteArray := prog_12_method_14_code
def yX10_takeBack : MethodName := ⟨RX10, "takeBack", "(I)I"⟩
abbrev cX10_letPass : ByteArray := prog_12_method_15_code
def yX10_letPass : MethodName := ⟨RX10, "letPass", "(I)I"⟩
abbrev cX10_passOneHour : ByteArray := prog_12_method_16_code
def yX10_passOneHour : MethodName := ⟨RX10, "passOneHour", "()I"⟩
abbrev cX10_processRequests : ByteArray := prog_12_method_17_code
def yX10_processRequests : MethodName := ⟨RX10, "processRequests", "()V"⟩
abbrev cX10_renewOrRefuse : ByteArray := prog_12_method_18_code
def yX10_renewOrRefuse : MethodName := ⟨RX10, "renewOrRefuse", "(II)V"⟩
abbrev cX10_burn : ByteArray := prog_12_method_19_code
def yX10_burn : MethodName := ⟨RX10, "burn", "()V"⟩
abbrev cX10_fineDarkShips : ByteArray := prog_12_method_20_code
def yX10_fineDarkShips : MethodName := ⟨RX10, "fineDarkShips", "()V"⟩
abbrev cX10_endLeases : ByteArray := prog_12_method_21_code
def yX10_endLeases : MethodName := ⟨RX10, "endLeases", "()I"⟩
abbrev cX10_copyFrom : ByteArray := prog_12_method_22_code
def yX10_copyFrom : MethodName := ⟨RX10, "copyFrom", "(LLampLeaseOffice$State;)V"⟩
def RX11 : String := "LampLeaseOffice"
def TX11 : u_T := fun k => match k with
  | 0 => ("LampLeaseOffice", "state", "LLampLeaseOffice$State;", true)
  | 1 => ("LampLeaseOffice", "stateBefore", "LLampLeaseOffice$State;", true)
  | 2 => ("LampLeaseOffice", "savedState", "LLampLeaseOffice$State;", true)
  | 3 => ("LampLeaseOffice", "hasSavedState", "Z", false)
  | 4 => ("LampLeaseOffice", "history", "LLampLeaseOffice$History;", true)
  | 5 => ("LampLeaseOffice", "forecast", "LLampLeaseOffice$Forecast;", true)
  | 6 => ("LampLeaseOffice", "division", "LLampLeaseOffice$Division;", true)
  | 7 => ("LampLeaseOffice", "text", "LLampLeaseOffice$CommandText;", true)
  | 8 => ("LampLeaseOffice", "output", "Ljava/lang/StringBuilder;", true)
  | 9 => ("LampLeaseOffice", "lastErrorPosition", "I", false)
  | 10 => ("LampLeaseOffice", "lastFailedCommand", "I", false)
  | _ => ("LampLeaseOffice", "lastFailureReason", "C", false)
def tyX11 : Nat → FieldType := fun k => match k with
  | 0 => .object "LampLeaseOffice$State"
  | 1 => .object "LampLeaseOffice$State"
  | 2 => .object "LampLeaseOffice$State"
  | 3 => .boolean
  | 4 => .object "LampLeaseOffice$History"
  | 5 => .object "LampLeaseOffice$Forecast"
  | 6 => .object "LampLeaseOffice$Division"
  | 7 => .object "LampLeaseOffice$CommandText"
  | 8 => .object "java/lang/StringBuilder"
  | 9 => .int
  | 10 => .int
  | _ => .char
theorem nmX11 : ∀ a, a < 12 → ∀ b, b < 12 → a ≠ b → (TX11 a).2.1 ≠ (TX11 b).2.1 := by decide +kernel
theorem tyX11_ok : ∀ k, k < 12 → parseFieldDescriptor (TX11 k).2.2.1 = some (tyX11 k) := by decide +kernel
abbrev cX11_init : ByteArray := prog_1_method_1_code
def yX11_init : MethodName := ⟨RX11, "<init>", "()V"⟩
abbrev cX11_addShip : ByteArray := prog_1_method_2_code
def yX11_addShip : MethodName := ⟨RX11, "addShip", "()I"⟩
abbrev cX11_addLamp : ByteArray := prog_1_method_3_code
def yX11_addLamp : MethodName := ⟨RX11, "addLamp", "(I)I"⟩
abbrev cX11_addOil : ByteArray := prog_1_method_4_code
def yX11_addOil : MethodName := ⟨RX11, "addOil", "(I)I"⟩
abbrev cX11_lease : ByteArray := prog_1_method_5_code
def yX11_lease : MethodName := ⟨RX11, "lease", "(III)I"⟩
abbrev cX11_requestRenewal : ByteArray := prog_1_method_6_code
def yX11_requestRenewal : MethodName := ⟨RX11, "requestRenewal", "(II)I"⟩
abbrev cX11_giveUp : ByteArray := prog_1_method_7_code
def yX11_giveUp : MethodName := ⟨RX11, "giveUp", "(I)I"⟩
abbrev cX11_passHours : ByteArray := prog_1_method_8_code
def yX11_passHours : MethodName := ⟨RX11, "passHours", "(I)I"⟩
abbrev cX11_hour : ByteArray := prog_1_method_9_code
def yX11_hour : MethodName := ⟨RX11, "hour", "()I"⟩
abbrev cX11_shipCount : ByteArray := prog_1_method_10_code
def yX11_shipCount : MethodName := ⟨RX11, "shipCount", "()I"⟩
abbrev cX11_coins : ByteArray := prog_1_method_11_code
def yX11_coins : MethodName := ⟨RX11, "coins", "(I)I"⟩
abbrev cX11_finesPaid : ByteArray := prog_1_method_12_code
def yX11_finesPaid : MethodName := ⟨RX11, "finesPaid", "(I)I"⟩
abbrev cX11_darkHours : ByteArray := prog_1_method_13_code
def yX11_darkHours : MethodName := ⟨RX11, "darkHours", "(I)I"⟩
abbrev cX11_demand : ByteArray := prog_1_method_14_code
def yX11_demand : MethodName := ⟨RX11, "demand", "(I)I"⟩
abbrev cX11_leasesOf : ByteArray := prog_1_method_15_code
def yX11_leasesOf : MethodName := ⟨RX11, "leasesOf", "(I)I"⟩
abbrev cX11_lampCount : ByteArray := prog_1_method_16_code
def yX11_lampCount : MethodName := ⟨RX11, "lampCount", "()I"⟩
abbrev cX11_level : ByteArray := prog_1_method_17_code
def yX11_level : MethodName := ⟨RX11, "level", "(I)I"⟩
abbrev cX11_isLeased : ByteArray := prog_1_method_18_code
def yX11_isLeased : MethodName := ⟨RX11, "isLeased", "(I)Z"⟩
abbrev cX11_lessee : ByteArray := prog_1_method_19_code
def yX11_lessee : MethodName := ⟨RX11, "lessee", "(I)I"⟩
abbrev cX11_endHour : ByteArray := prog_1_method_20_code
def yX11_endHour : MethodName := ⟨RX11, "endHour", "(I)I"⟩
abbrev cX11_brightHours : ByteArray := prog_1_method_21_code
def yX11_brightHours : MethodName := ⟨RX11, "brightHours", "(I)I"⟩
abbrev cX11_wasBright : ByteArray := prog_1_method_22_code
def yX11_wasBright : MethodName := ⟨RX11, "wasBright", "(I)Z"⟩
abbrev cX11_leasedLamps : ByteArray := prog_1_method_23_code
def yX11_leasedLamps : MethodName := ⟨RX11, "leasedLamps", "()I"⟩
abbrev cX11_oil : ByteArray := prog_1_method_24_code
def yX11_oil : MethodName := ⟨RX11, "oil", "()I"⟩
abbrev cX11_consumption : ByteArray := prog_1_method_25_code
def yX11_consumption : MethodName := ⟨RX11, "consumption", "()I"⟩
abbrev cX11_hoursOfOil : ByteArray := prog_1_method_26_code
def yX11_hoursOfOil : MethodName := ⟨RX11, "hoursOfOil", "()I"⟩
abbrev cX11_hoursOfOilByEnds : ByteArray := prog_1_method_27_code
def yX11_hoursOfOilByEnds : MethodName := ⟨RX11, "hoursOfOilByEnds", "()I"⟩
abbrev cX11_brightNext : ByteArray := prog_1_method_28_code
def yX11_brightNext : MethodName := ⟨RX11, "brightNext", "()I"⟩
abbrev cX11_mostBright : ByteArray := prog_1_method_29_code
def yX11_mostBright : MethodName := ⟨RX11, "mostBright", "()I"⟩
abbrev cX11_mostBrightBySums : ByteArray := prog_1_method_30_code
def yX11_mostBrightBySums : MethodName := ⟨RX11, "mostBrightBySums", "()I"⟩
abbrev cX11_share : ByteArray := prog_1_method_31_code
def yX11_share : MethodName := ⟨RX11, "share", "(I)I"⟩
abbrev cX11_shareByRank : ByteArray := prog_1_method_32_code
def yX11_shareByRank : MethodName := ⟨RX11, "shareByRank", "(I)I"⟩
abbrev cX11_requestCount : ByteArray := prog_1_method_33_code
def yX11_requestCount : MethodName := ⟨RX11, "requestCount", "()I"⟩
abbrev cX11_requestedLamp : ByteArray := prog_1_method_34_code
def yX11_requestedLamp : MethodName := ⟨RX11, "requestedLamp", "(I)I"⟩
abbrev cX11_requestedHours : ByteArray := prog_1_method_35_code
def yX11_requestedHours : MethodName := ⟨RX11, "requestedHours", "(I)I"⟩
abbrev cX11_refusedRenewals : ByteArray := prog_1_method_36_code
def yX11_refusedRenewals : MethodName := ⟨RX11, "refusedRenewals", "()I"⟩
abbrev cX11_officeCoins : ByteArray := prog_1_method_37_code
def yX11_officeCoins : MethodName := ⟨RX11, "officeCoins", "()I"⟩
abbrev cX11_shipByFines : ByteArray := prog_1_method_38_code
def yX11_shipByFines : MethodName := ⟨RX11, "shipByFines", "(I)I"⟩
abbrev cX11_lampByEnd : ByteArray := prog_1_method_39_code
def yX11_lampByEnd : MethodName := ⟨RX11, "lampByEnd", "(I)I"⟩
abbrev cX11_meanCoins : ByteArray := prog_1_method_40_code
def yX11_meanCoins : MethodName := ⟨RX11, "meanCoins", "()D"⟩
abbrev cX11_leasedShare : ByteArray := prog_1_method_41_code
def yX11_leasedShare : MethodName := ⟨RX11, "leasedShare", "()F"⟩
abbrev cX11_isConsistent : ByteArray := prog_1_method_42_code
def yX11_isConsistent : MethodName := ⟨RX11, "isConsistent", "()Z"⟩
abbrev cX11_coinsAddUp : ByteArray := prog_1_method_43_code
def yX11_coinsAddUp : MethodName := ⟨RX11, "coinsAddUp", "()Z"⟩
abbrev cX11_sharesAgree : ByteArray := prog_1_method_44_code
def yX11_sharesAgree : MethodName := ⟨RX11, "sharesAgree", "()Z"⟩
abbrev cX11_sharesAddUp : ByteArray := prog_1_method_45_code
def yX11_sharesAddUp : MethodName := ⟨RX11, "sharesAddUp", "()Z"⟩
abbrev cX11_brightnessAgrees : ByteArray := prog_1_method_46_code
def yX11_brightnessAgrees : MethodName := ⟨RX11, "brightnessAgrees", "()Z"⟩
abbrev cX11_requestsAreForLeasedLamps : ByteArray := prog_1_method_47_code
def yX11_requestsAreForLeasedLamps : MethodName := ⟨RX11, "requestsAreForLeasedLamps", "()Z"⟩
abbrev cX11_feed : ByteArray := prog_1_method_48_code
def yX11_feed : MethodName := ⟨RX11, "feed", "(C)I"⟩
abbrev cX11_runCommands : ByteArray := prog_1_method_49_code
def yX11_runCommands : MethodName := ⟨RX11, "runCommands", "()I"⟩
abbrev cX11_faultOf : ByteArray := prog_1_method_50_code
def yX11_faultOf : MethodName := ⟨RX11, "faultOf", "(LLampLeaseOffice$Command;)C"⟩
abbrev cX11_carryOut : ByteArray := prog_1_method_51_code
def yX11_carryOut : MethodName := ⟨RX11, "carryOut", "(LLampLeaseOffice$Command;)V"⟩
abbrev cX11_errorPosition : ByteArray := prog_1_method_52_code
def yX11_errorPosition : MethodName := ⟨RX11, "errorPosition", "()I"⟩
abbrev cX11_failedCommand : ByteArray := prog_1_method_53_code
def yX11_failedCommand : MethodName := ⟨RX11, "failedCommand", "()I"⟩
abbrev cX11_failureReason : ByteArray := prog_1_method_54_code
def yX11_failureReason : MethodName := ⟨RX11, "failureReason", "()C"⟩
abbrev cX11_writeLamps : ByteArray := prog_1_method_55_code
def yX11_writeLamps : MethodName := ⟨RX11, "writeLamps", "()I"⟩
abbrev cX11_describe : ByteArray := prog_1_method_56_code
def yX11_describe : MethodName := ⟨RX11, "describe", "(I)V"⟩
abbrev cX11_outputChar : ByteArray := prog_1_method_57_code
def yX11_outputChar : MethodName := ⟨RX11, "outputChar", "(I)C"⟩
abbrev cX11_undoCount : ByteArray := prog_1_method_58_code
def yX11_undoCount : MethodName := ⟨RX11, "undoCount", "()I"⟩
abbrev cX11_undo : ByteArray := prog_1_method_59_code
def yX11_undo : MethodName := ⟨RX11, "undo", "()I"⟩
abbrev cX11_save : ByteArray := prog_1_method_60_code
def yX11_save : MethodName := ⟨RX11, "save", "()I"⟩
abbrev cX11_restore : ByteArray := prog_1_method_61_code
def yX11_restore : MethodName := ⟨RX11, "restore", "()I"⟩
abbrev cX11_throwFor : ByteArray := prog_1_method_62_code
def yX11_throwFor : MethodName := ⟨RX11, "throwFor", "(C)V"⟩
abbrev cX11_throwUnlessShip : ByteArray := prog_1_method_63_code
def yX11_throwUnlessShip : MethodName := ⟨RX11, "throwUnlessShip", "(I)V"⟩
abbrev cX11_throwUnlessLamp : ByteArray := prog_1_method_64_code
def yX11_throwUnlessLamp : MethodName := ⟨RX11, "throwUnlessLamp", "(I)V"⟩
abbrev cX11_throwUnlessPosition : ByteArray := prog_1_method_65_code
def yX11_throwUnlessPosition : MethodName := ⟨RX11, "throwUnlessPosition", "(I)V"⟩
abbrev cX11_throwIfNothing : ByteArray := prog_1_method_66_code
def yX11_throwIfNothing : MethodName := ⟨RX11, "throwIfNothing", "(I)V"⟩
def RX12 : String := "LampLeaseOfficeModel"
def TX12 : u_T := fun k => match k with
  | 0 => ("LampLeaseOfficeModel", "s", "[I", true)
  | 1 => ("LampLeaseOfficeModel", "before", "[I", true)
  | 2 => ("LampLeaseOfficeModel", "aside", "[I", true)
  | 3 => ("LampLeaseOfficeModel", "saved", "[I", true)
  | 4 => ("LampLeaseOfficeModel", "isSaved", "Z", false)
  | 5 => ("LampLeaseOfficeModel", "past", "[I", true)
  | 6 => ("LampLeaseOfficeModel", "pastMany", "I", false)
  | 7 => ("LampLeaseOfficeModel", "thrown", "I", false)
  | 8 => ("LampLeaseOfficeModel", "output", "[C", true)
  | 9 => ("LampLeaseOfficeModel", "outputMany", "I", false)
  | 10 => ("LampLeaseOfficeModel", "input", "[C", true)
  | 11 => ("LampLeaseOfficeModel", "length", "I", false)
  | 12 => ("LampLeaseOfficeModel", "at", "I", false)
  | 13 => ("LampLeaseOfficeModel", "isWrong", "Z", false)
  | 14 => ("LampLeaseOfficeModel", "errorAt", "I", false)
  | 15 => ("LampLeaseOfficeModel", "failedAt", "I", false)
  | 16 => ("LampLeaseOfficeModel", "reason", "C", false)
  | 17 => ("LampLeaseOfficeModel", "commands", "[I", true)
  | _ => ("LampLeaseOfficeModel", "commandMany", "I", false)
def tyX12 : Nat → FieldType := fun k => match k with
  | 0 => .array .int
  | 1 => .array .int
  | 2 => .array .int
  | 3 => .array .int
  | 4 => .boolean
  | 5 => .array .int
  | 6 => .int
  | 7 => .int
  | 8 => .array .char
  | 9 => .int
  | 10 => .array .char
  | 11 => .int
  | 12 => .int
  | 13 => .boolean
  | 14 => .int
  | 15 => .int
  | 16 => .char
  | 17 => .array .int
  | _ => .int
theorem nmX12 : ∀ a, a < 19 → ∀ b, b < 19 → a ≠ b → (TX12 a).2.1 ≠ (TX12 b).2.1 := by decide +kernel
theorem tyX12_ok : ∀ k, k < 19 → parseFieldDescriptor (TX12 k).2.2.1 = some (tyX12 k) := by decide +kernel
abbrev cX12_init : ByteArray := prog_14_method_1_code
def yX12_init : MethodName := ⟨RX12, "<init>", "()V"⟩
abbrev cX12_thrown : ByteArray := prog_14_method_2_code
def yX12_thrown : MethodName := ⟨RX12, "thrown", "()I"⟩
abbrev cX12_in : ByteArray := prog_14_method_3_code
def yX12_in : MethodName := ⟨RX12, "in", "(III)Z"⟩
abbrev cX12_keep : ByteArray := prog_14_method_4_code
def yX12_keep : MethodName := ⟨RX12, "keep", "()V"⟩
abbrev cX12_ends : ByteArray := prog_14_method_5_code
def yX12_ends : MethodName := ⟨RX12, "ends", "(I)I"⟩
abbrev cX12_fails : ByteArray := prog_14_method_6_code
def yX12_fails : MethodName := ⟨RX12, "fails", "(I)I"⟩
abbrev cX12_isThere : ByteArray := prog_14_method_7_code
def yX12_isThere : MethodName := ⟨RX12, "isThere", "(Z)Z"⟩
abbrev cX12_isShip : ByteArray := prog_14_method_8_code
def yX12_isShip : MethodName := ⟨RX12, "isShip", "(I)Z"⟩
abbrev cX12_isLamp : ByteArray := prog_14_method_9_code
def yX12_isLamp : MethodName := ⟨RX12, "isLamp", "(I)Z"⟩
abbrev cX12_ofShip : ByteArray := prog_14_method_10_code
def yX12_ofShip : MethodName := ⟨RX12, "ofShip", "(II)I"⟩
abbrev cX12_of : ByteArray := prog_14_method_11_code
def yX12_of : MethodName := ⟨RX12, "of", "(II)I"⟩
abbrev cX12_sets : ByteArray := prog_14_method_12_code
def yX12_sets : MethodName := ⟨RX12, "sets", "(III)V"⟩
abbrev cX12_isOut : ByteArray := prog_14_method_13_code
def yX12_isOut : MethodName := ⟨RX12, "isOut", "(I)Z"⟩
abbrev cX12_pays : ByteArray := prog_14_method_14_code
def yX12_pays : MethodName := ⟨RX12, "pays", "(II)V"⟩
abbrev cX12_requestFor : ByteArray := prog_14_method_15_code
def yX12_requestFor : MethodName := ⟨RX12, "requestFor", "(I)I"⟩
abbrev cX12_frees : ByteArray := prog_14_method_16_code
def yX12_frees : MethodName := ⟨RX12, "frees", "(I)V"⟩
abbrev cX12_doAddShip : ByteArray := prog_14_method_17_code
def yX12_doAddShip : MethodName := ⟨RX12, "doAddShip", "()I"⟩
abbrev cX12_addShip : ByteArray := prog_14_method_18_code
def yX12_addShip : MethodName := ⟨RX12, "addShip", "()I"⟩
abbrev cX12_doAddLamp : ByteArray := prog_14_method_19_code
def yX12_doAddLamp : MethodName := ⟨RX12, "doAddLamp", "(I)I"⟩
abbrev cX12_addLamp : ByteArray := prog_14_method_20_code
def yX12_addLamp : MethodName := ⟨RX12, "addLamp", "(I)I"⟩
abbrev cX12_doAddOil : ByteArray := prog_14_method_21_code
def yX12_doAddOil : MethodName := ⟨RX12, "doAddOil", "(I)I"⟩
abbrev cX12_addOil : ByteArray := prog_14_method_22_code
def yX12_addOil : MethodName := ⟨RX12, "addOil", "(I)I"⟩
abbrev cX12_doLease : ByteArray := prog_14_method_23_code
def yX12_doLease : MethodName := ⟨RX12, "doLease", "(III)I"⟩
abbrev cX12_lease : ByteArray := prog_14_method_24_code
def yX12_lease : MethodName := ⟨RX12, "lease", "(III)I"⟩
abbrev cX12_doRequestRenewal : ByteArray := prog_14_method_25_code
def yX12_doRequestRenewal : MethodName := ⟨RX12, "doRequestRenewal", "(II)I"⟩
abbrev cX12_requestRenewal : ByteArray := prog_14_method_26_code
def yX12_requestRenewal : MethodName := ⟨RX12, "requestRenewal", "(II)I"⟩
abbrev cX12_doGiveUp : ByteArray := prog_14_method_27_code
def yX12_doGiveUp : MethodName := ⟨RX12, "doGiveUp", "(I)I"⟩
abbrev cX12_giveUp : ByteArray := prog_14_method_28_code
def yX12_giveUp : MethodName := ⟨RX12, "giveUp", "(I)I"⟩
abbrev cX12_renews : ByteArray := prog_14_method_29_code
def yX12_renews : MethodName := ⟨RX12, "renews", "()V"⟩
abbrev cX12_burns : ByteArray := prog_14_method_30_code
def yX12_burns : MethodName := ⟨RX12, "burns", "()I"⟩
abbrev cX12_lampsOf : ByteArray := prog_14_method_31_code
def yX12_lampsOf : MethodName := ⟨RX12, "lampsOf", "(IZ)I"⟩
abbrev cX12_fines : ByteArray := prog_14_method_32_code
def yX12_fines : MethodName := ⟨RX12, "fines", "()V"⟩
abbrev cX12_endsLeases : ByteArray := prog_14_method_33_code
def yX12_endsLeases : MethodName := ⟨RX12, "endsLeases", "()I"⟩
abbrev cX12_doPassHours : ByteArray := prog_14_method_34_code
def yX12_doPassHours : MethodName := ⟨RX12, "doPassHours", "(I)I"⟩
abbrev cX12_passHours : ByteArray := prog_14_method_35_code
def yX12_passHours : MethodName := ⟨RX12, "passHours", "(I)I"⟩
abbrev cX12_hour : ByteArray := prog_14_method_36_code
def yX12_hour : MethodName := ⟨RX12, "hour", "()I"⟩
abbrev cX12_shipCount : ByteArray := prog_14_method_37_code
def yX12_shipCount : MethodName := ⟨RX12, "shipCount", "()I"⟩
abbrev cX12_coins : ByteArray := prog_14_method_38_code
def yX12_coins : MethodName := ⟨RX12, "coins", "(I)I"⟩
abbrev cX12_finesPaid : ByteArray := prog_14_method_39_code
def yX12_finesPaid : MethodName := ⟨RX12, "finesPaid", "(I)I"⟩
abbrev cX12_darkHours : ByteArray := prog_14_method_40_code
def yX12_darkHours : MethodName := ⟨RX12, "darkHours", "(I)I"⟩
abbrev cX12_wants : ByteArray := prog_14_method_41_code
def yX12_wants : MethodName := ⟨RX12, "wants", "(I)I"⟩
abbrev cX12_demand : ByteArray := prog_14_method_42_code
def yX12_demand : MethodName := ⟨RX12, "demand", "(I)I"⟩
abbrev cX12_leasesOf : ByteArray := prog_14_method_43_code
def yX12_leasesOf : MethodName := ⟨RX12, "leasesOf", "(I)I"⟩
abbrev cX12_lampCount : ByteArray := prog_14_method_44_code
def yX12_lampCount : MethodName := ⟨RX12, "lampCount", "()I"⟩
abbrev cX12_level : ByteArray := prog_14_method_45_code
def yX12_level : MethodName := ⟨RX12, "level", "(I)I"⟩
abbrev cX12_isLeased : ByteArray := prog_14_method_46_code
def yX12_isLeased : MethodName := ⟨RX12, "isLeased", "(I)Z"⟩
abbrev cX12_lessee : ByteArray := prog_14_method_47_code
def yX12_lessee : MethodName := ⟨RX12, "lessee", "(I)I"⟩
abbrev cX12_endHour : ByteArray := prog_14_method_48_code
def yX12_endHour : MethodName := ⟨RX12, "endHour", "(I)I"⟩
abbrev cX12_brightHours : ByteArray := prog_14_method_49_code
def yX12_brightHours : MethodName := ⟨RX12, "brightHours", "(I)I"⟩
abbrev cX12_wasBright : ByteArray := prog_14_method_50_code
def yX12_wasBright : MethodName := ⟨RX12, "wasBright", "(I)Z"⟩
abbrev cX12_leased : ByteArray := prog_14_method_51_code
def yX12_leased : MethodName := ⟨RX12, "leased", "()I"⟩
abbrev cX12_leasedLamps : ByteArray := prog_14_method_52_code
def yX12_leasedLamps : MethodName := ⟨RX12, "leasedLamps", "()I"⟩
abbrev cX12_oil : ByteArray := prog_14_method_53_code
def yX12_oil : MethodName := ⟨RX12, "oil", "()I"⟩
abbrev cX12_needed : ByteArray := prog_14_method_54_code
def yX12_needed : MethodName := ⟨RX12, "needed", "()I"⟩
abbrev cX12_consumption : ByteArray := prog_14_method_55_code
def yX12_consumption : MethodName := ⟨RX12, "consumption", "()I"⟩
abbrev cX12_hoursOfOil : ByteArray := prog_14_method_56_code
def yX12_hoursOfOil : MethodName := ⟨RX12, "hoursOfOil", "()I"⟩
abbrev cX12_hoursOfOilByEnds : ByteArray := prog_14_method_57_code
def yX12_hoursOfOilByEnds : MethodName := ⟨RX12, "hoursOfOilByEnds", "()I"⟩
abbrev cX12_brightNext : ByteArray := prog_14_method_58_code
def yX12_brightNext : MethodName := ⟨RX12, "brightNext", "()I"⟩
abbrev cX12_mostBright : ByteArray := prog_14_method_59_code
def yX12_mostBright : MethodName := ⟨RX12, "mostBright", "()I"⟩
abbrev cX12_mostBrightBySums : ByteArray := prog_14_method_60_code
def yX12_mostBrightBySums : MethodName := ⟨RX12, "mostBrightBySums", "()I"⟩
abbrev cX12_partOf : ByteArray := prog_14_method_61_code
def yX12_partOf : MethodName := ⟨RX12, "partOf", "(I)I"⟩
abbrev cX12_share : ByteArray := prog_14_method_62_code
def yX12_share : MethodName := ⟨RX12, "share", "(I)I"⟩
abbrev cX12_shareByRank : ByteArray := prog_14_method_63_code
def yX12_shareByRank : MethodName := ⟨RX12, "shareByRank", "(I)I"⟩
abbrev cX12_isRequest : ByteArray := prog_14_method_64_code
def yX12_isRequest : MethodName := ⟨RX12, "isRequest", "(I)Z"⟩
abbrev cX12_requestCount : ByteArray := prog_14_method_65_code
def yX12_requestCount : MethodName := ⟨RX12, "requestCount", "()I"⟩
abbrev cX12_requestedLamp : ByteArray := prog_14_method_66_code
def yX12_requestedLamp : MethodName := ⟨RX12, "requestedLamp", "(I)I"⟩
abbrev cX12_requestedHours : ByteArray := prog_14_method_67_code
def yX12_requestedHours : MethodName := ⟨RX12, "requestedHours", "(I)I"⟩
abbrev cX12_refusedRenewals : ByteArray := prog_14_method_68_code
def yX12_refusedRenewals : MethodName := ⟨RX12, "refusedRenewals", "()I"⟩
abbrev cX12_officeCoins : ByteArray := prog_14_method_69_code
def yX12_officeCoins : MethodName := ⟨RX12, "officeCoins", "()I"⟩
abbrev cX12_shipByFines : ByteArray := prog_14_method_70_code
def yX12_shipByFines : MethodName := ⟨RX12, "shipByFines", "(I)I"⟩
abbrev cX12_lampByEnd : ByteArray := prog_14_method_71_code
def yX12_lampByEnd : MethodName := ⟨RX12, "lampByEnd", "(I)I"⟩
abbrev cX12_meanCoins : ByteArray := prog_14_method_72_code
def yX12_meanCoins : MethodName := ⟨RX12, "meanCoins", "()D"⟩
abbrev cX12_leasedShare : ByteArray := prog_14_method_73_code
def yX12_leasedShare : MethodName := ⟨RX12, "leasedShare", "()F"⟩
abbrev cX12_isConsistent : ByteArray := prog_14_method_74_code
def yX12_isConsistent : MethodName := ⟨RX12, "isConsistent", "()Z"⟩
abbrev cX12_says : ByteArray := prog_14_method_75_code
def yX12_says : MethodName := ⟨RX12, "says", "(C)V"⟩
abbrev cX12_saysNumber : ByteArray := prog_14_method_76_code
def yX12_saysNumber : MethodName := ⟨RX12, "saysNumber", "(I)V"⟩
abbrev cX12_writeLamps : ByteArray := prog_14_method_77_code
def yX12_writeLamps : MethodName := ⟨RX12, "writeLamps", "()I"⟩
abbrev cX12_outputChar : ByteArray := prog_14_method_78_code
def yX12_outputChar : MethodName := ⟨RX12, "outputChar", "(I)C"⟩
abbrev cX12_feed : ByteArray := prog_14_method_79_code
def yX12_feed : MethodName := ⟨RX12, "feed", "(C)I"⟩
abbrev cX12_behind : ByteArray := prog_14_method_80_code
def yX12_behind : MethodName := ⟨RX12, "behind", "(I)I"⟩
abbrev cX12_skip : ByteArray := prog_14_method_81_code
def yX12_skip : MethodName := ⟨RX12, "skip", "(Ljava/lang/String;)V"⟩
abbrev cX12_isDigit : ByteArray := prog_14_method_82_code
def yX12_isDigit : MethodName := ⟨RX12, "isDigit", "()Z"⟩
abbrev cX12_readNumber : ByteArray := prog_14_method_83_code
def yX12_readNumber : MethodName := ⟨RX12, "readNumber", "(I)I"⟩
abbrev cX12_readCommand : ByteArray := prog_14_method_84_code
def yX12_readCommand : MethodName := ⟨RX12, "readCommand", "()V"⟩
abbrev cX12_does : ByteArray := prog_14_method_85_code
def yX12_does : MethodName := ⟨RX12, "does", "(I)Ljava/lang/String;"⟩
abbrev cX12_runCommands : ByteArray := prog_14_method_86_code
def yX12_runCommands : MethodName := ⟨RX12, "runCommands", "()I"⟩
abbrev cX12_errorPosition : ByteArray := prog_14_method_87_code
def yX12_errorPosition : MethodName := ⟨RX12, "errorPosition", "()I"⟩
abbrev cX12_failedCommand : ByteArray := prog_14_method_88_code
def yX12_failedCommand : MethodName := ⟨RX12, "failedCommand", "()I"⟩
abbrev cX12_failureReason : ByteArray := prog_14_method_89_code
def yX12_failureReason : MethodName := ⟨RX12, "failureReason", "()C"⟩
abbrev cX12_undoCount : ByteArray := prog_14_method_90_code
def yX12_undoCount : MethodName := ⟨RX12, "undoCount", "()I"⟩
abbrev cX12_undo : ByteArray := prog_14_method_91_code
def yX12_undo : MethodName := ⟨RX12, "undo", "()I"⟩
abbrev cX12_save : ByteArray := prog_14_method_92_code
def yX12_save : MethodName := ⟨RX12, "save", "()I"⟩
abbrev cX12_restore : ByteArray := prog_14_method_93_code
def yX12_restore : MethodName := ⟨RX12, "restore", "()I"⟩
def RJx145de : String := "java/io/Serializable"
def TJx145de : u_T := fun k => match k with
  | _ => ("", "", "", false)
def tyJx145de : Nat → FieldType := fun k => match k with
  | _ => .int
theorem nmJx145de : ∀ a, a < 0 → ∀ b, b < 0 → a ≠ b → (TJx145de a).2.1 ≠ (TJx145de b).2.1 := by decide +kernel
theorem tyJx145de_ok : ∀ k, k < 0 → parseFieldDescriptor (TJx145de k).2.2.1 = some (tyJx145de k) := by decide +kernel
def RJ5 : String := "java/lang/AbstractStringBuilder"
def TJ5 : u_T := fun k => match k with
  | _ => ("", "", "", false)
def tyJ5 : Nat → FieldType := fun k => match k with
  | _ => .int
theorem nmJ5 : ∀ a, a < 0 → ∀ b, b < 0 → a ≠ b → (TJ5 a).2.1 ≠ (TJ5 b).2.1 := by decide +kernel
theorem tyJ5_ok : ∀ k, k < 0 → parseFieldDescriptor (TJ5 k).2.2.1 = some (tyJ5 k) := by decide +kernel
abbrev cJ5_init_d00df : ByteArray := prog_16_method_2_code
def yJ5_init_d00df : MethodName := ⟨RJ5, "<init>", "(I)V"⟩
abbrev cJ5_length_8abf5 : ByteArray := prog_16_method_6_code
def yJ5_length_8abf5 : MethodName := ⟨RJ5, "length", "()I"⟩
abbrev cJ5_ensureCapacityInternal_d00df : ByteArray := prog_16_method_9_code
def yJ5_ensureCapacityInternal_d00df : MethodName := ⟨RJ5, "ensureCapacityInternal", "(I)V"⟩
abbrev cJ5_newCapacity_0f7a4 : ByteArray := prog_16_method_10_code
def yJ5_newCapacity_0f7a4 : MethodName := ⟨RJ5, "newCapacity", "(I)I"⟩
abbrev cJ5_inflate_da8c8 : ByteArray := prog_16_method_11_code
def yJ5_inflate_da8c8 : MethodName := ⟨RJ5, "inflate", "()V"⟩
abbrev cJ5_setLength_d00df : ByteArray := prog_16_method_13_code
def yJ5_setLength_d00df : MethodName := ⟨RJ5, "setLength", "(I)V"⟩
abbrev cJ5_charAt_5068e : ByteArray := prog_16_method_14_code
def yJ5_charAt_5068e : MethodName := ⟨RJ5, "charAt", "(I)C"⟩
abbrev cJ5_append_cf1ce : ByteArray := prog_16_method_22_code
def yJ5_append_cf1ce : MethodName := ⟨RJ5, "append", "(Ljava/lang/String;)Ljava/lang/AbstractStringBuilder;"⟩
abbrev cJ5_appendNull_278bc : ByteArray := prog_16_method_26_code
def yJ5_appendNull_278bc : MethodName := ⟨RJ5, "appendNull", "()Ljava/lang/AbstractStringBuilder;"⟩
abbrev cJ5_append_3fe6f : ByteArray := prog_16_method_31_code
def yJ5_append_3fe6f : MethodName := ⟨RJ5, "append", "(C)Ljava/lang/AbstractStringBuilder;"⟩
abbrev cJ5_append_c97b9 : ByteArray := prog_16_method_32_code
def yJ5_append_c97b9 : MethodName := ⟨RJ5, "append", "(I)Ljava/lang/AbstractStringBuilder;"⟩
abbrev cJ5_getValue_6d5f1 : ByteArray := prog_16_method_64_code
def yJ5_getValue_6d5f1 : MethodName := ⟨RJ5, "getValue", "()[B"⟩
abbrev cJ5_isLatin1_aae02 : ByteArray := prog_16_method_68_code
def yJ5_isLatin1_aae02 : MethodName := ⟨RJ5, "isLatin1", "()Z"⟩
abbrev cJ5_inflateIfNeededFor_a7421 : ByteArray := prog_16_method_71_code
def yJ5_inflateIfNeededFor_a7421 : MethodName := ⟨RJ5, "inflateIfNeededFor", "(Ljava/lang/String;)V"⟩
abbrev cJ5_putStringAt_47b60 : ByteArray := prog_16_method_73_code
def yJ5_putStringAt_47b60 : MethodName := ⟨RJ5, "putStringAt", "(ILjava/lang/String;)V"⟩
def RJx2cfe8 : String := "java/lang/Appendable"
def TJx2cfe8 : u_T := fun k => match k with
  | _ => ("", "", "", false)
def tyJx2cfe8 : Nat → FieldType := fun k => match k with
  | _ => .int
theorem nmJx2cfe8 : ∀ a, a < 0 → ∀ b, b < 0 → a ≠ b → (TJx2cfe8 a).2.1 ≠ (TJx2cfe8 b).2.1 := by decide +kernel
theorem tyJx2cfe8_ok : ∀ k, k < 0 → parseFieldDescriptor (TJx2cfe8 k).2.2.1 = some (tyJx2cfe8 k) := by decide +kernel
def RJx00060 : String := "java/lang/ArrayIndexOutOfBoundsException"
def TJx00060 : u_T := fun k => match k with
  | 0 => ("java/lang/Throwable", "cause", "Ljava/lang/Throwable;", false)
  | 1 => ("java/lang/Throwable", "stackTrace", "[Ljava/lang/StackTraceElement;", false)
  | 2 => ("java/lang/Throwable", "suppressedExceptions", "Ljava/util/List;", false)
  | 3 => ("java/lang/Throwable", "detailMessage", "Ljava/lang/String;", false)
  | 4 => ("java/lang/Throwable", "backtrace", "Ljava/lang/Object;", false)
  | _ => ("java/lang/Throwable", "depth", "I", false)
def tyJx00060 : Nat → FieldType := fun k => match k with
  | 0 => .object "java/lang/Throwable"
  | 1 => .array (.object "java/lang/StackTraceElement")
  | 2 => .object "java/util/List"
  | 3 => .object "java/lang/String"
  | 4 => .object "java/lang/Object"
  | _ => .int
theorem nmJx00060 : ∀ a, a < 6 → ∀ b, b < 6 → a ≠ b → (TJx00060 a).2.1 ≠ (TJx00060 b).2.1 := by decide +kernel
theorem tyJx00060_ok : ∀ k, k < 6 → parseFieldDescriptor (TJx00060 k).2.2.1 = some (tyJx00060 k) := by decide +kernel
abbrev cJx00060_init_a7421 : ByteArray := prog_19_method_2_code
def yJx00060_init_a7421 : MethodName := ⟨RJx00060, "<init>", "(Ljava/lang/String;)V"⟩
abbrev cJx00060_init_d00df : ByteArray := prog_19_method_3_code
def yJx00060_init_d00df : MethodName := ⟨RJx00060, "<init>", "(I)V"⟩
def RJx9f9b0 : String := "java/lang/CharSequence"
def TJx9f9b0 : u_T := fun k => match k with
  | _ => ("", "", "", false)
def tyJx9f9b0 : Nat → FieldType := fun k => match k with
  | _ => .int
theorem nmJx9f9b0 : ∀ a, a < 0 → ∀ b, b < 0 → a ≠ b → (TJx9f9b0 a).2.1 ≠ (TJx9f9b0 b).2.1 := by decide +kernel
theorem tyJx9f9b0_ok : ∀ k, k < 0 → parseFieldDescriptor (TJx9f9b0 k).2.2.1 = some (tyJx9f9b0 k) := by decide +kernel
def RJx8e188 : String := "java/lang/Cloneable"
def TJx8e188 : u_T := fun k => match k with
  | _ => ("", "", "", false)
def tyJx8e188 : Nat → FieldType := fun k => match k with
  | _ => .int
theorem nmJx8e188 : ∀ a, a < 0 → ∀ b, b < 0 → a ≠ b → (TJx8e188 a).2.1 ≠ (TJx8e188 b).2.1 := by decide +kernel
theorem tyJx8e188_ok : ∀ k, k < 0 → parseFieldDescriptor (TJx8e188 k).2.2.1 = some (tyJx8e188 k) := by decide +kernel
def RJxb160c : String := "java/lang/Comparable"
def TJxb160c : u_T := fun k => match k with
  | _ => ("", "", "", false)
def tyJxb160c : Nat → FieldType := fun k => match k with
  | _ => .int
theorem nmJxb160c : ∀ a, a < 0 → ∀ b, b < 0 → a ≠ b → (TJxb160c a).2.1 ≠ (TJxb160c b).2.1 := by decide +kernel
theorem tyJxb160c_ok : ∀ k, k < 0 → parseFieldDescriptor (TJxb160c k).2.2.1 = some (tyJxb160c k) := by decide +kernel
def RJx29ce0 : String := "java/lang/Enum"
def TJx29ce0 : u_T := fun k => match k with
  | _ => ("", "", "", false)
def tyJx29ce0 : Nat → FieldType := fun k => match k with
  | _ => .int
theorem nmJx29ce0 : ∀ a, a < 0 → ∀ b, b < 0 → a ≠ b → (TJx29ce0 a).2.1 ≠ (TJx29ce0 b).2.1 := by decide +kernel
theorem tyJx29ce0_ok : ∀ k, k < 0 → parseFieldDescriptor (TJx29ce0 k).2.2.1 = some (tyJx29ce0 k) := by decide +kernel
abbrev cJx29ce0_ordinal_8abf5 : ByteArray := prog_23_method_2_code
def yJx29ce0_ordinal_8abf5 : MethodName := ⟨RJx29ce0, "ordinal", "()I"⟩
def RJ6 : String := "java/lang/Integer"
def TJ6 : u_T := fun k => match k with
  | _ => ("", "", "", false)
def tyJ6 : Nat → FieldType := fun k => match k with
  | _ => .int
theorem nmJ6 : ∀ a, a < 0 → ∀ b, b < 0 → a ≠ b → (TJ6 a).2.1 ≠ (TJ6 b).2.1 := by decide +kernel
theorem tyJ6_ok : ∀ k, k < 0 → parseFieldDescriptor (TJ6 k).2.2.1 = some (tyJ6 k) := by decide +kernel
abbrev cJ6_getChars_ba4f3 : ByteArray := prog_28_method_12_code
def yJ6_getChars_ba4f3 : MethodName := ⟨RJ6, "getChars", "(II[B)I"⟩
abbrev cJ6_stringSize_0f7a4 : ByteArray := prog_28_method_13_code
def yJ6_stringSize_0f7a4 : MethodName := ⟨RJ6, "stringSize", "(I)I"⟩
def RJ9 : String := "java/lang/Math"
def TJ9 : u_T := fun k => match k with
  | _ => ("", "", "", false)
def tyJ9 : Nat → FieldType := fun k => match k with
  | _ => .int
theorem nmJ9 : ∀ a, a < 0 → ∀ b, b < 0 → a ≠ b → (TJ9 a).2.1 ≠ (TJ9 b).2.1 := by decide +kernel
theorem tyJ9_ok : ∀ k, k < 0 → parseFieldDescriptor (TJ9 k).2.2.1 = some (tyJ9 k) := by decide +kernel
abbrev cJ9_max_7cf53 : ByteArray := prog_29_method_65_code
def yJ9_max_7cf53 : MethodName := ⟨RJ9, "max", "(II)I"⟩
abbrev cJ9_min_7cf53 : ByteArray := prog_29_method_69_code
def yJ9_min_7cf53 : MethodName := ⟨RJ9, "min", "(II)I"⟩
def RJxd2413 : String := "java/lang/Number"
def TJxd2413 : u_T := fun k => match k with
  | _ => ("", "", "", false)
def tyJxd2413 : Nat → FieldType := fun k => match k with
  | _ => .int
theorem nmJxd2413 : ∀ a, a < 0 → ∀ b, b < 0 → a ≠ b → (TJxd2413 a).2.1 ≠ (TJxd2413 b).2.1 := by decide +kernel
theorem tyJxd2413_ok : ∀ k, k < 0 → parseFieldDescriptor (TJxd2413 k).2.2.1 = some (tyJxd2413 k) := by decide +kernel
def RJ0 : String := "java/lang/String"
def TJ0 : u_T := fun k => match k with
  | 0 => ("java/lang/String", "value", "[B", true)
  | 1 => ("java/lang/String", "coder", "B", true)
  | 2 => ("java/lang/String", "hash", "I", false)
  | _ => ("java/lang/String", "hashIsZero", "Z", false)
def tyJ0 : Nat → FieldType := fun k => match k with
  | 0 => .array .byte
  | 1 => .byte
  | 2 => .int
  | _ => .boolean
theorem nmJ0 : ∀ a, a < 4 → ∀ b, b < 4 → a ≠ b → (TJ0 a).2.1 ≠ (TJ0 b).2.1 := by decide +kernel
theorem tyJ0_ok : ∀ k, k < 4 → parseFieldDescriptor (TJ0 k).2.2.1 = some (tyJ0 k) := by decide +kernel
abbrev cJ0_init_81219 : ByteArray := prog_32_method_53_code
def yJ0_init_81219 : MethodName := ⟨RJ0, "<init>", "(Ljava/lang/StringBuilder;)V"⟩
abbrev cJ0_length_8abf5 : ByteArray := prog_32_method_54_code
def yJ0_length_8abf5 : MethodName := ⟨RJ0, "length", "()I"⟩
abbrev cJ0_charAt_5068e : ByteArray := prog_32_method_56_code
def yJ0_charAt_5068e : MethodName := ⟨RJ0, "charAt", "(I)C"⟩
abbrev cJ0_getBytes_840e7 : ByteArray := prog_32_method_147_code
def yJ0_getBytes_840e7 : MethodName := ⟨RJ0, "getBytes", "([BIB)V"⟩
abbrev cJ0_init_db425 : ByteArray := prog_32_method_150_code
def yJ0_init_db425 : MethodName := ⟨RJ0, "<init>", "(Ljava/lang/AbstractStringBuilder;Ljava/lang/Void;)V"⟩
abbrev cJ0_coder_7d493 : ByteArray := prog_32_method_152_code
def yJ0_coder_7d493 : MethodName := ⟨RJ0, "coder", "()B"⟩
abbrev cJ0_isLatin1_aae02 : ByteArray := prog_32_method_154_code
def yJ0_isLatin1_aae02 : MethodName := ⟨RJ0, "isLatin1", "()Z"⟩
abbrev cJ0_checkIndex_df160 : ByteArray := prog_32_method_155_code
def yJ0_checkIndex_df160 : MethodName := ⟨RJ0, "checkIndex", "(II)V"⟩
abbrev cJ0_checkBoundsOffCount_cabcc : ByteArray := prog_32_method_157_code
def yJ0_checkBoundsOffCount_cabcc : MethodName := ⟨RJ0, "checkBoundsOffCount", "(III)I"⟩
abbrev cJ0_checkBoundsBeginEnd_23922 : ByteArray := prog_32_method_158_code
def yJ0_checkBoundsBeginEnd_23922 : MethodName := ⟨RJ0, "checkBoundsBeginEnd", "(III)V"⟩
def RJ4 : String := "java/lang/StringBuilder"
def TJ4 : u_T := fun k => match k with
  | 0 => ("java/lang/AbstractStringBuilder", "value", "[B", false)
  | 1 => ("java/lang/AbstractStringBuilder", "coder", "B", false)
  | 2 => ("java/lang/AbstractStringBuilder", "maybeLatin1", "Z", false)
  | _ => ("java/lang/AbstractStringBuilder", "count", "I", false)
def tyJ4 : Nat → FieldType := fun k => match k with
  | 0 => .array .byte
  | 1 => .byte
  | 2 => .boolean
  | _ => .int
theorem nmJ4 : ∀ a, a < 4 → ∀ b, b < 4 → a ≠ b → (TJ4 a).2.1 ≠ (TJ4 b).2.1 := by decide +kernel
theorem tyJ4_ok : ∀ k, k < 4 → parseFieldDescriptor (TJ4 k).2.2.1 = some (tyJ4 k) := by decide +kernel
abbrev cJ4_init_da8c8 : ByteArray := prog_33_method_1_code
def yJ4_init_da8c8 : MethodName := ⟨RJ4, "<init>", "()V"⟩
abbrev cJ4_append_15ec4 : ByteArray := prog_33_method_7_code
def yJ4_append_15ec4 : MethodName := ⟨RJ4, "append", "(Ljava/lang/String;)Ljava/lang/StringBuilder;"⟩
abbrev cJ4_append_cf468 : ByteArray := prog_33_method_14_code
def yJ4_append_cf468 : MethodName := ⟨RJ4, "append", "(C)Ljava/lang/StringBuilder;"⟩
abbrev cJ4_append_bf812 : ByteArray := prog_33_method_15_code
def yJ4_append_bf812 : MethodName := ⟨RJ4, "append", "(I)Ljava/lang/StringBuilder;"⟩
abbrev cJ4_toString_0e30d : ByteArray := prog_33_method_42_code
def yJ4_toString_0e30d : MethodName := ⟨RJ4, "toString", "()Ljava/lang/String;"⟩
abbrev cJ4_charAt_5068e : ByteArray := prog_33_method_88_code
def yJ4_charAt_5068e : MethodName := ⟨RJ4, "charAt", "(I)C"⟩
abbrev cJ4_setLength_d00df : ByteArray := prog_33_method_89_code
def yJ4_setLength_d00df : MethodName := ⟨RJ4, "setLength", "(I)V"⟩
abbrev cJ4_length_8abf5 : ByteArray := prog_33_method_93_code
def yJ4_length_8abf5 : MethodName := ⟨RJ4, "length", "()I"⟩
def RJx7c733 : String := "java/lang/StringIndexOutOfBoundsException"
def TJx7c733 : u_T := fun k => match k with
  | 0 => ("java/lang/Throwable", "backtrace", "Ljava/lang/Object;", false)
  | 1 => ("java/lang/Throwable", "detailMessage", "Ljava/lang/String;", false)
  | 2 => ("java/lang/Throwable", "cause", "Ljava/lang/Throwable;", false)
  | 3 => ("java/lang/Throwable", "stackTrace", "[Ljava/lang/StackTraceElement;", false)
  | 4 => ("java/lang/Throwable", "depth", "I", false)
  | _ => ("java/lang/Throwable", "suppressedExceptions", "Ljava/util/List;", false)
def tyJx7c733 : Nat → FieldType := fun k => match k with
  | 0 => .object "java/lang/Object"
  | 1 => .object "java/lang/String"
  | 2 => .object "java/lang/Throwable"
  | 3 => .array (.object "java/lang/StackTraceElement")
  | 4 => .int
  | _ => .object "java/util/List"
theorem nmJx7c733 : ∀ a, a < 6 → ∀ b, b < 6 → a ≠ b → (TJx7c733 a).2.1 ≠ (TJx7c733 b).2.1 := by decide +kernel
theorem tyJx7c733_ok : ∀ k, k < 6 → parseFieldDescriptor (TJx7c733 k).2.2.1 = some (tyJx7c733 k) := by decide +kernel
abbrev cJx7c733_init_d00df : ByteArray := prog_34_method_3_code
def yJx7c733_init_d00df : MethodName := ⟨RJx7c733, "<init>", "(I)V"⟩
def RJ1 : String := "java/lang/StringLatin1"
def TJ1 : u_T := fun k => match k with
  | _ => ("", "", "", false)
def tyJ1 : Nat → FieldType := fun k => match k with
  | _ => .int
theorem nmJ1 : ∀ a, a < 0 → ∀ b, b < 0 → a ≠ b → (TJ1 a).2.1 ≠ (TJ1 b).2.1 := by decide +kernel
theorem tyJ1_ok : ∀ k, k < 0 → parseFieldDescriptor (TJ1 k).2.2.1 = some (tyJ1 k) := by decide +kernel
abbrev cJ1_charAt_3b067 : ByteArray := prog_35_method_2_code
def yJ1_charAt_3b067 : MethodName := ⟨RJ1, "charAt", "([BI)C"⟩
abbrev cJ1_canEncode_fc78d : ByteArray := prog_35_method_3_code
def yJ1_canEncode_fc78d : MethodName := ⟨RJ1, "canEncode", "(C)Z"⟩
abbrev cJ1_fillNull_b72d1 : ByteArray := prog_35_method_48_code
def yJ1_fillNull_b72d1 : MethodName := ⟨RJ1, "fillNull", "([BII)V"⟩
abbrev cJ1_inflate_0e8fd : ByteArray := prog_35_method_50_code
def yJ1_inflate_0e8fd : MethodName := ⟨RJ1, "inflate", "([BI[BII)V"⟩
def RJ2 : String := "java/lang/StringUTF16"
def TJ2 : u_T := fun k => match k with
  | _ => ("", "", "", false)
def tyJ2 : Nat → FieldType := fun k => match k with
  | _ => .int
theorem nmJ2 : ∀ a, a < 0 → ∀ b, b < 0 → a ≠ b → (TJ2 a).2.1 ≠ (TJ2 b).2.1 := by decide +kernel
theorem tyJ2_ok : ∀ k, k < 0 → parseFieldDescriptor (TJ2 k).2.2.1 = some (tyJ2 k) := by decide +kernel
abbrev cJ2_newBytesFor_77867 : ByteArray := prog_36_method_2_code
def yJ2_newBytesFor_77867 : MethodName := ⟨RJ2, "newBytesFor", "(I)[B"⟩
abbrev cJ2_newBytesLength_0f7a4 : ByteArray := prog_36_method_3_code
def yJ2_newBytesLength_0f7a4 : MethodName := ⟨RJ2, "newBytesLength", "(I)I"⟩
abbrev cJ2_putChar_b72d1 : ByteArray := prog_36_method_4_code
def yJ2_putChar_b72d1 : MethodName := ⟨RJ2, "putChar", "([BII)V"⟩
abbrev cJ2_getChar_3b067 : ByteArray := prog_36_method_5_code
def yJ2_getChar_3b067 : MethodName := ⟨RJ2, "getChar", "([BI)C"⟩
abbrev cJ2_length_9d52b : ByteArray := prog_36_method_6_code
def yJ2_length_9d52b : MethodName := ⟨RJ2, "length", "([B)I"⟩
abbrev cJ2_coderFromArrayLen_85cad : ByteArray := prog_36_method_15_code
def yJ2_coderFromArrayLen_85cad : MethodName := ⟨RJ2, "coderFromArrayLen", "([BI)B"⟩
abbrev cJ2_compress_39247 : ByteArray := prog_36_method_17_code
def yJ2_compress_39247 : MethodName := ⟨RJ2, "compress", "([BII)[B"⟩
abbrev cJ2_compress_5af95 : ByteArray := prog_36_method_22_code
def yJ2_compress_5af95 : MethodName := ⟨RJ2, "compress", "([BI[BII)I"⟩
abbrev cJ2_fillNull_b72d1 : ByteArray := prog_36_method_70_code
def yJ2_fillNull_b72d1 : MethodName := ⟨RJ2, "fillNull", "([BII)V"⟩
abbrev cJ2_putCharSB_b72d1 : ByteArray := prog_36_method_71_code
def yJ2_putCharSB_b72d1 : MethodName := ⟨RJ2, "putCharSB", "([BII)V"⟩
abbrev cJ2_getChars_46870 : ByteArray := prog_36_method_77_code
def yJ2_getChars_46870 : MethodName := ⟨RJ2, "getChars", "(III[B)I"⟩
abbrev cJ2_putCharsAt_cd4e5 : ByteArray := prog_36_method_81_code
def yJ2_putCharsAt_cd4e5 : MethodName := ⟨RJ2, "putCharsAt", "([BICCCC)I"⟩
abbrev cJ2_charAt_3b067 : ByteArray := prog_36_method_83_code
def yJ2_charAt_3b067 : MethodName := ⟨RJ2, "charAt", "([BI)C"⟩
abbrev cJ2_inflate_0e8fd : ByteArray := prog_36_method_86_code
def yJ2_inflate_0e8fd : MethodName := ⟨RJ2, "inflate", "([BI[BII)V"⟩
abbrev cJ2_getChars_ba4f3 : ByteArray := prog_36_method_89_code
def yJ2_getChars_ba4f3 : MethodName := ⟨RJ2, "getChars", "(II[B)I"⟩
abbrev cJ2_checkIndex_2214a : ByteArray := prog_36_method_91_code
def yJ2_checkIndex_2214a : MethodName := ⟨RJ2, "checkIndex", "(I[B)V"⟩
abbrev cJ2_checkBoundsBeginEnd_d044e : ByteArray := prog_36_method_93_code
def yJ2_checkBoundsBeginEnd_d044e : MethodName := ⟨RJ2, "checkBoundsBeginEnd", "(II[B)V"⟩
abbrev cJ2_checkBoundsOffCount_d044e : ByteArray := prog_36_method_94_code
def yJ2_checkBoundsOffCount_d044e : MethodName := ⟨RJ2, "checkBoundsOffCount", "(II[B)V"⟩
def RJ10 : String := "java/lang/System"
def TJ10 : u_T := fun k => match k with
  | _ => ("", "", "", false)
def tyJ10 : Nat → FieldType := fun k => match k with
  | _ => .int
theorem nmJ10 : ∀ a, a < 0 → ∀ b, b < 0 → a ≠ b → (TJ10 a).2.1 ≠ (TJ10 b).2.1 := by decide +kernel
theorem tyJ10_ok : ∀ k, k < 0 → parseFieldDescriptor (TJ10 k).2.2.1 = some (tyJ10 k) := by decide +kernel
def RJxfd54e : String := "java/lang/constant/Constable"
def TJxfd54e : u_T := fun k => match k with
  | _ => ("", "", "", false)
def tyJxfd54e : Nat → FieldType := fun k => match k with
  | _ => .int
theorem nmJxfd54e : ∀ a, a < 0 → ∀ b, b < 0 → a ≠ b → (TJxfd54e a).2.1 ≠ (TJxfd54e b).2.1 := by decide +kernel
theorem tyJxfd54e_ok : ∀ k, k < 0 → parseFieldDescriptor (TJxfd54e k).2.2.1 = some (tyJxfd54e k) := by decide +kernel
def RJx3cf43 : String := "java/lang/constant/ConstantDesc"
def TJx3cf43 : u_T := fun k => match k with
  | _ => ("", "", "", false)
def tyJx3cf43 : Nat → FieldType := fun k => match k with
  | _ => .int
theorem nmJx3cf43 : ∀ a, a < 0 → ∀ b, b < 0 → a ≠ b → (TJx3cf43 a).2.1 ≠ (TJx3cf43 b).2.1 := by decide +kernel
theorem tyJx3cf43_ok : ∀ k, k < 0 → parseFieldDescriptor (TJx3cf43 k).2.2.1 = some (tyJx3cf43 k) := by decide +kernel
def RJ7 : String := "java/util/Arrays"
def TJ7 : u_T := fun k => match k with
  | _ => ("", "", "", false)
def tyJ7 : Nat → FieldType := fun k => match k with
  | _ => .int
theorem nmJ7 : ∀ a, a < 0 → ∀ b, b < 0 → a ≠ b → (TJ7 a).2.1 ≠ (TJ7 b).2.1 := by decide +kernel
theorem tyJ7_ok : ∀ k, k < 0 → parseFieldDescriptor (TJ7 k).2.2.1 = some (tyJ7 k) := by decide +kernel
abbrev cJ7_rangeCheck_23922 : ByteArray := prog_42_method_30_code
def yJ7_rangeCheck_23922 : MethodName := ⟨RJ7, "rangeCheck", "(III)V"⟩
abbrev cJ7_fill_eb02e : ByteArray := prog_42_method_110_code
def yJ7_fill_eb02e : MethodName := ⟨RJ7, "fill", "([BIIB)V"⟩
abbrev cJ7_copyOf_9075b : ByteArray := prog_42_method_121_code
def yJ7_copyOf_9075b : MethodName := ⟨RJ7, "copyOf", "([BI)[B"⟩
abbrev cJ7_checkLength_df160 : ByteArray := prog_42_method_131_code
def yJ7_checkLength_df160 : MethodName := ⟨RJ7, "checkLength", "(II)V"⟩
abbrev cJ7_copyOfRange_39247 : ByteArray := prog_42_method_132_code
def yJ7_copyOfRange_39247 : MethodName := ⟨RJ7, "copyOfRange", "([BII)[B"⟩
abbrev cJ7_copyOfRangeByte_39247 : ByteArray := prog_42_method_133_code
def yJ7_copyOfRangeByte_39247 : MethodName := ⟨RJ7, "copyOfRangeByte", "([BII)[B"⟩
def RJ8 : String := "jdk/internal/util/ArraysSupport"
def TJ8 : u_T := fun k => match k with
  | _ => ("", "", "", false)
def tyJ8 : Nat → FieldType := fun k => match k with
  | _ => .int
theorem nmJ8 : ∀ a, a < 0 → ∀ b, b < 0 → a ≠ b → (TJ8 a).2.1 ≠ (TJ8 b).2.1 := by decide +kernel
theorem tyJ8_ok : ∀ k, k < 0 → parseFieldDescriptor (TJ8 k).2.2.1 = some (tyJ8 k) := by decide +kernel
abbrev cJ8_newLength_cabcc : ByteArray := prog_44_method_27_code
def yJ8_newLength_cabcc : MethodName := ⟨RJ8, "newLength", "(III)I"⟩
abbrev cJ8_hugeLength_7cf53 : ByteArray := prog_44_method_28_code
def yJ8_hugeLength_7cf53 : MethodName := ⟨RJ8, "hugeLength", "(II)I"⟩
def RJ3 : String := "jdk/internal/util/Preconditions"
def TJ3 : u_T := fun k => match k with
  | _ => ("", "", "", false)
def tyJ3 : Nat → FieldType := fun k => match k with
  | _ => .int
theorem nmJ3 : ∀ a, a < 0 → ∀ b, b < 0 → a ≠ b → (TJ3 a).2.1 ≠ (TJ3 b).2.1 := by decide +kernel
theorem tyJ3_ok : ∀ k, k < 0 → parseFieldDescriptor (TJ3 k).2.2.1 = some (tyJ3 k) := by decide +kernel
abbrev cJ3_checkIndex_8e157 : ByteArray := prog_45_method_11_code
def yJ3_checkIndex_8e157 : MethodName := ⟨RJ3, "checkIndex", "(IILjava/util/function/BiFunction;)I"⟩
abbrev cJ3_checkFromToIndex_8c36e : ByteArray := prog_45_method_12_code
def yJ3_checkFromToIndex_8c36e : MethodName := ⟨RJ3, "checkFromToIndex", "(IIILjava/util/function/BiFunction;)I"⟩
abbrev cJ3_checkFromIndexSize_8c36e : ByteArray := prog_45_method_13_code
def yJ3_checkFromIndexSize_8c36e : MethodName := ⟨RJ3, "checkFromIndexSize", "(IIILjava/util/function/BiFunction;)I"⟩
def RL : String := "LampLeaseOfficeLaw"
abbrev cL_addShip : ByteArray := method_3_code
def yL_addShip : MethodName := ⟨RL, "addShip", "(LLampLeaseOffice;[J)I"⟩
abbrev cL_addLamp : ByteArray := method_4_code
def yL_addLamp : MethodName := ⟨RL, "addLamp", "(LLampLeaseOffice;I[J)I"⟩
abbrev cL_addOil : ByteArray := method_5_code
def yL_addOil : MethodName := ⟨RL, "addOil", "(LLampLeaseOffice;I[J)I"⟩
abbrev cL_lease : ByteArray := method_6_code
def yL_lease : MethodName := ⟨RL, "lease", "(LLampLeaseOffice;III[J)I"⟩
abbrev cL_requestRenewal : ByteArray := method_7_code
def yL_requestRenewal : MethodName := ⟨RL, "requestRenewal", "(LLampLeaseOffice;II[J)I"⟩
abbrev cL_giveUp : ByteArray := method_8_code
def yL_giveUp : MethodName := ⟨RL, "giveUp", "(LLampLeaseOffice;I[J)I"⟩
abbrev cL_passHours : ByteArray := method_9_code
def yL_passHours : MethodName := ⟨RL, "passHours", "(LLampLeaseOffice;I[J)I"⟩
abbrev cL_coins : ByteArray := method_10_code
def yL_coins : MethodName := ⟨RL, "coins", "(LLampLeaseOffice;I[J)I"⟩
abbrev cL_finesPaid : ByteArray := method_11_code
def yL_finesPaid : MethodName := ⟨RL, "finesPaid", "(LLampLeaseOffice;I[J)I"⟩
abbrev cL_darkHours : ByteArray := method_12_code
def yL_darkHours : MethodName := ⟨RL, "darkHours", "(LLampLeaseOffice;I[J)I"⟩
abbrev cL_demand : ByteArray := method_13_code
def yL_demand : MethodName := ⟨RL, "demand", "(LLampLeaseOffice;I[J)I"⟩
abbrev cL_leasesOf : ByteArray := method_14_code
def yL_leasesOf : MethodName := ⟨RL, "leasesOf", "(LLampLeaseOffice;I[J)I"⟩
abbrev cL_level : ByteArray := method_15_code
def yL_level : MethodName := ⟨RL, "level", "(LLampLeaseOffice;I[J)I"⟩
abbrev cL_isLeased : ByteArray := method_16_code
def yL_isLeased : MethodName := ⟨RL, "isLeased", "(LLampLeaseOffice;I[J)I"⟩
abbrev cL_lessee : ByteArray := method_17_code
def yL_lessee : MethodName := ⟨RL, "lessee", "(LLampLeaseOffice;I[J)I"⟩
abbrev cL_endHour : ByteArray := method_18_code
def yL_endHour : MethodName := ⟨RL, "endHour", "(LLampLeaseOffice;I[J)I"⟩
abbrev cL_brightHours : ByteArray := method_19_code
def yL_brightHours : MethodName := ⟨RL, "brightHours", "(LLampLeaseOffice;I[J)I"⟩
abbrev cL_wasBright : ByteArray := method_20_code
def yL_wasBright : MethodName := ⟨RL, "wasBright", "(LLampLeaseOffice;I[J)I"⟩
abbrev cL_hoursOfOil : ByteArray := method_21_code
def yL_hoursOfOil : MethodName := ⟨RL, "hoursOfOil", "(LLampLeaseOffice;[J)I"⟩
abbrev cL_hoursOfOilByEnds : ByteArray := method_22_code
def yL_hoursOfOilByEnds : MethodName := ⟨RL, "hoursOfOilByEnds", "(LLampLeaseOffice;[J)I"⟩
abbrev cL_share : ByteArray := method_23_code
def yL_share : MethodName := ⟨RL, "share", "(LLampLeaseOffice;I[J)I"⟩
abbrev cL_shareByRank : ByteArray := method_24_code
def yL_shareByRank : MethodName := ⟨RL, "shareByRank", "(LLampLeaseOffice;I[J)I"⟩
abbrev cL_requestedLamp : ByteArray := method_25_code
def yL_requestedLamp : MethodName := ⟨RL, "requestedLamp", "(LLampLeaseOffice;I[J)I"⟩
abbrev cL_requestedHours : ByteArray := method_26_code
def yL_requestedHours : MethodName := ⟨RL, "requestedHours", "(LLampLeaseOffice;I[J)I"⟩
abbrev cL_shipByFines : ByteArray := method_27_code
def yL_shipByFines : MethodName := ⟨RL, "shipByFines", "(LLampLeaseOffice;I[J)I"⟩
abbrev cL_lampByEnd : ByteArray := method_28_code
def yL_lampByEnd : MethodName := ⟨RL, "lampByEnd", "(LLampLeaseOffice;I[J)I"⟩
abbrev cL_meanCoins : ByteArray := method_29_code
def yL_meanCoins : MethodName := ⟨RL, "meanCoins", "(LLampLeaseOffice;[D)I"⟩
abbrev cL_leasedShare : ByteArray := method_30_code
def yL_leasedShare : MethodName := ⟨RL, "leasedShare", "(LLampLeaseOffice;[D)I"⟩
abbrev cL_feed : ByteArray := method_31_code
def yL_feed : MethodName := ⟨RL, "feed", "(LLampLeaseOffice;C[J)I"⟩
abbrev cL_runCommands : ByteArray := method_32_code
def yL_runCommands : MethodName := ⟨RL, "runCommands", "(LLampLeaseOffice;[J)I"⟩
abbrev cL_errorPosition : ByteArray := method_33_code
def yL_errorPosition : MethodName := ⟨RL, "errorPosition", "(LLampLeaseOffice;[J)I"⟩
abbrev cL_failedCommand : ByteArray := method_34_code
def yL_failedCommand : MethodName := ⟨RL, "failedCommand", "(LLampLeaseOffice;[J)I"⟩
abbrev cL_failureReason : ByteArray := method_35_code
def yL_failureReason : MethodName := ⟨RL, "failureReason", "(LLampLeaseOffice;[J)I"⟩
abbrev cL_outputChar : ByteArray := method_36_code
def yL_outputChar : MethodName := ⟨RL, "outputChar", "(LLampLeaseOffice;I[J)I"⟩
abbrev cL_undo : ByteArray := method_37_code
def yL_undo : MethodName := ⟨RL, "undo", "(LLampLeaseOffice;[J)I"⟩
abbrev cL_restore : ByteArray := method_38_code
def yL_restore : MethodName := ⟨RL, "restore", "(LLampLeaseOffice;[J)I"⟩
abbrev cL_law : ByteArray := code
def yL_law : MethodName := ⟨RL, "law", "([I)Z"⟩
end
section
/-! numbers as integers: o_I z is the int z, wrapped round -/
def o_I (z : Int) : Int32 := Int32.ofInt z
def o_R (z : Int) : Prop := -2147483648 ≤ z ∧ z ≤ 2147483647
theorem o_add (a b : Int) : o_I a + o_I b = o_I (a + b) := (Int32.ofInt_add a b).symm
theorem o_sub (a b : Int) : o_I a - o_I b = o_I (a - b) := (Int32.ofInt_sub a b).symm
theorem o_mul (a b : Int) : o_I a * o_I b = o_I (a * b) := (Int32.ofInt_mul a b).symm
theorem o_toInt {z : Int} (h : o_R z) : (o_I z).toInt = z := Int32.toInt_ofInt_of_le (by have := h.1; omega) (by have := h.2; omega)
theorem o_lt {a b : Int} (ha : o_R a) (hb : o_R b) : o_I a < o_I b ↔ a < b := by rw [Int32.lt_iff_toInt_lt, o_toInt ha, o_toInt hb]
theorem o_le {a b : Int} (ha : o_R a) (hb : o_R b) : o_I a ≤ o_I b ↔ a ≤ b := by rw [Int32.le_iff_toInt_le, o_toInt ha, o_toInt hb]
theorem o_eq {a b : Int} (ha : o_R a) (hb : o_R b) : o_I a = o_I b ↔ a = b := by rw [← Int32.toInt_inj, o_toInt ha, o_toInt hb]
theorem o_nI (n : Nat) : nI n = o_I n := (Int32.ofInt_eq_ofNat (n := n)).symm
theorem o_of (x : Int32) : ∃ z : Int, o_R z ∧ x = o_I z := ⟨x.toInt, ⟨by have := Int32.le_toInt x; omega, by have := Int32.toInt_lt x; omega⟩, (Int32.ofInt_toInt x).symm⟩
theorem o_clamp {z : Int} (h : o_R z) : (o_I z).toNatClampNeg = z.toNat := by
  show (o_I z).toInt.toNat = z.toNat
  rw [o_toInt h]
theorem o_in {z : Int} {n : Nat} (hr : o_R z) (h0 : 0 ≤ z) (h1 : z < n) : vp_in (o_I z) n := vp_in_iff.mpr (by rw [o_toInt hr]; exact ⟨h0, h1⟩)
theorem o_div {a b : Int} (ha : o_R a) (hb : o_R b) (ha0 : 0 ≤ a) (h0 : 0 < b) : o_I a / o_I b = o_I (a / b) := by
  rw [← Int32.toInt_inj, Int32.toInt_div_of_ne_right _ _ (by
    intro h
    have h1 := congrArg Int32.toInt h
    rw [o_toInt hb] at h1
    have h2 : (-1 : Int32).toInt = -1 := by decide
    omega), o_toInt ha, o_toInt hb, Int.tdiv_eq_ediv_of_nonneg ha0]
  refine (o_toInt ⟨?_, ?_⟩).symm
  · have := Int.ediv_nonneg ha0 (Int.le_of_lt h0)
    omega
  · have h1 := Int.ediv_le_self b ha0
    have := ha.2
    omega
/-- abstract heaps: cells by their numbers; a reference is a number; from 1000000 on the numbers are those of constants -/
abbrev o_C : Type := (Nat × vp_A) ⊕ (Nat × List Value)
def o_rV (ad : Nat → Nat) : Value → Value
  | .ref k => .ref (ad k)
  | v => v
def o_rA (ad : Nat → Nat) (a : vp_A) : vp_A := (a.1, match a.2 with
  | .inr (.inr (.inr (.inr f))) => .inr (.inr (.inr (.inr (fun j => (f j).map ad))))
  | x => x)
def o_rC (ad : Nat → Nat) (cy : Nat → ClassId) : o_C → va_E
  | .inl a => .inl (cy a.1, o_rA ad a.2)
  | .inr o => .inr (o.1, o.2.map (o_rV ad))
def o_rW (ad : Nat → Nat) (cy : Nat → ClassId) (n : Nat) (h : Nat → o_C) : va_W := (List.range n).map (fun k => (ad k, o_rC ad cy (h k)))
def o_up (h : Nat → o_C) (k : Nat) (c : o_C) : Nat → o_C := fun j => if j = k then c else h j
theorem o_rW_get {ad : Nat → Nat} {cy : Nat → ClassId} {n k : Nat} {h : Nat → o_C} {c : o_C} (hk : k < n) (hc : h k = c) : (o_rW ad cy n h)[k]? = some (ad k, o_rC ad cy c) := by
  simp [o_rW, hk, hc]
theorem o_rW_set {ad : Nat → Nat} {cy : Nat → ClassId} {n k : Nat} {h : Nat → o_C} {c : o_C} {e : va_E} (he : e = o_rC ad cy c) : (o_rW ad cy n h).set k (ad k, e) = o_rW ad cy n (o_up h k c) := by
  subst he
  apply List.ext_getElem?
  intro j
  rw [List.getElem?_set]
  by_cases hj : k = j
  · subst hj
    by_cases hk : k < n
    · simp [o_rW, o_up, hk]
    · simp [o_rW, hk]
  · simp only [if_neg hj]
    by_cases hk : j < n
    · simp [o_rW, o_up, hk, Ne.symm hj]
    · simp [o_rW, hk]
theorem o_cat (ad : Nat → Nat) (v : Value) : (o_rV ad v).category = v.category := by cases v <;> rfl
theorem o_cats (ad : Nat → Nat) (l : List Value) : ((l.map (o_rV ad)).map fun v => v.category).sum = (l.map fun v => v.category).sum := by
  rw [List.map_map]
  congr 1
  exact List.map_congr_left fun v _ => o_cat ad v
/-- the classes that the worlds hold -/
def o_T0 : u_T := fun _ => ("", "", "", false)
def o_cl : List vw_C := [(RX11, TX11, 12), (RX10, TX10, 7), (RX9, TX9, 4), (RX7, TX7, 6), (RX8, TX8, 3), (RX5, TX5, 3), (RX4, TX4, 1), (RX3, TX3, 4), (RX2, TX2, 5), (RX1, TX1, 2), (RX12, TX12, 19), (RJ4, TJ4, 4),
  ("java/lang/IndexOutOfBoundsException", o_T0, 0), ("java/lang/IllegalArgumentException", o_T0, 0), ("java/lang/IllegalStateException", o_T0, 0), ("java/util/NoSuchElementException", o_T0, 0), ("java/lang/UnsupportedOperationException", o_T0, 0), ("java/lang/ArithmeticException", o_T0, 0)]
def o_tyL : List FieldType := [.int, .boolean, .char, .byte, .long, .double, .object RX1, .object RX10]
/-- what a run fixes: the heap's size at the law's entry, the classes' numbers, the array classes -/
abbrev o_Z : Type := Nat × va_G × (Nat → ClassId) × Nat × (Nat → Int32)
def o_A (Z : o_Z) : Nat → Prop := fun q => Z.1 ≤ q
def o_tys (Z : o_Z) : List (ClassId × FieldType) := o_tyL.zipIdx.map (fun q => (Z.2.2.1 q.2, q.1))
theorem o_tys_get {Z : o_Z} {t : Nat} {ty : FieldType} (h : o_tyL[t]? = some ty) : (o_tys Z)[t]? = some (Z.2.2.1 t, ty) := by
  simp [o_tys, h]
/-- the good words of the tables, which every method is given -/
def o_gW : List Cond := lw_tbl.filter goodWord
theorem o_gIn {ws : List Cond} (h : ∀ w ∈ ws, w ∈ o_gW) : GoodIn o_gW ws := fun w hw => ⟨h w hw, good_of_word (List.mem_filter.mp (h w hw)).2⟩
theorem o_gCode {w : Cond} (hw : w ∈ o_gW) : GoodIn o_gW (w :: o_gW) := o_gIn (fun v hv => (List.mem_cons.mp hv).elim (fun e => e ▸ hw) id)
def o_nM : List (String × Nat × MethodName × String) := [("LampLeaseOffice", 11, yX10_init, "LampLeaseOffice"), ("LampLeaseOffice$State", 11, yX9_init, "LampLeaseOffice"), ("LampLeaseOffice$State", 20, yX7_init, "LampLeaseOffice"), ("LampLeaseOffice$State", 27, yX8_init, "LampLeaseOffice"), ("LampLeaseOffice$History", 17, yX10_init, "LampLeaseOffice"), ("LampLeaseOffice", 31, yX4_init, "LampLeaseOffice"), ("LampLeaseOffice", 38, yX3_init, "LampLeaseOffice"), ("LampLeaseOffice$CommandText", 21, yX1_init, "LampLeaseOffice")]
def o_nF : Cond := .fieldLinkNest RX2 75 RX11 "KEYWORDS" "[LLampLeaseOffice$Keyword;" RX11
/-- the String constants: class, entry, text, number -/
def o_str : List (String × Nat × String × Nat) := [("LampLeaseOffice", 385, "there is no such ship or lamp", 6), ("LampLeaseOffice", 387, "an argument is out of range", 7), ("LampLeaseOffice", 389, "the state does not allow this", 8), ("LampLeaseOffice", 393, "the lamp is not leased", 9), ("LampLeaseOffice", 396, "the ship has too few coins", 10), ("LampLeaseOffice", 401, "there is no such ship", 11), ("LampLeaseOffice", 404, "there is no such lamp", 12), ("LampLeaseOffice", 408, "there is nothing to answer", 13), ("LampLeaseOffice", 406, "there is no such position", 14), ("LampLeaseOffice", 248, "there are no ships", 15), ("LampLeaseOffice", 256, "there are no lamps", 16), ("LampLeaseOffice", 279, "the input buffer is full", 17), ("LampLeaseOffice", 296, "the text is malformed", 18), ("LampLeaseOffice", 315, "a command failed", 19), ("LampLeaseOffice", 366, "there is no such character", 20), ("LampLeaseOffice", 373, "no call can be undone", 21), ("LampLeaseOffice", 382, "no state was saved", 22)]
/-- what stands in the heap from the start and stays: of the tables, the statics, the constants -/
def o_E2 (A : Nat → Prop) (ad : Nat → Nat) (U : State) (H : Heap) : Prop :=
  vx_Zq Bundle.tN "UNASSIGNED_STACK" Bundle.steD A U H ∧ vx_Zq Bundle.tN "SUPPRESSED_SENTINEL" Bundle.listD A U H
def o_Ex (Z : o_Z) (ad : Nat → Nat) (U : State) : Prop :=
  Z.1 ≤ U.heap.size ∧ va_K Z.2.1 o_cl (o_tys Z) U ∧ (∀ q ∈ o_nM, va_Nw (.methodLinkNest q.1 q.2.1 q.2.2.1 q.2.2.2) U) ∧ va_Nw o_nF U ∧ (∀ q ∈ o_str, vk_R q.1 q.2.1 q.2.2.1 (ad (2000000 + q.2.2.2)) U) ∧ o_E2 (o_A Z) ad U U.heap ∧ (va_X (ad 5000000) Z.2.2.2.1 Z.2.2.2.2 U U.heap ∧ ad 5000000 < Z.1)
theorem o_E2.mv {A : Nat → Prop} {ad : Nat → Nat} {u U : State} {H H1 : Heap} (hvm : u.vm.Alike U.vm) (hq : ∀ a : Nat, a < H.size → ¬ A a → H1[a]? = H[a]?) (h : o_E2 A ad u H) : o_E2 A ad U H1 :=
  ⟨vx_Zq.moved hvm (h.1.kept hq), vx_Zq.moved hvm (h.2.kept hq)⟩
theorem o_E2.ad {A : Nat → Prop} {ad ad' : Nat → Nat} {U : State} {H : Heap} (h : o_E2 A ad U H) (e : ∀ k : Nat, 1000000 ≤ k → ad' k = ad k) : o_E2 A ad' U H := h
theorem o_Ex.mv {Z : o_Z} {ad : Nat → Nat} {s U : State} (h : o_Ex Z ad s) (hz : s.heap.size ≤ U.heap.size) (hq : ∀ a : Nat, a < s.heap.size → ¬ o_A Z a → U.heap[a]? = s.heap[a]?) (hW : s.WarmedH U.vm) : o_Ex Z ad U := by
  obtain ⟨h1, h2, h3, h4, h5, h6, h7, h8⟩ := h
  refine ⟨Nat.le_trans h1 hz, va_K.moved hW.alike h2, fun q hq' => (h3 q hq').warmM hW, va_Nw.warmF hW h4, fun q hq' => (h5 q hq').warm hW, h6.mv hW.alike hq, ?_, h8⟩
  exact va_X.moved hW.alike (h7.kept (hq _ (Nat.lt_of_lt_of_le h8 h1) (Nat.not_le.mpr h8)))
theorem o_Ex.vm {Z : o_Z} {ad : Nat → Nat} {s U : State} (h : o_Ex Z ad s) (hh : U.heap = s.heap) (hv : U.vm = s.vm) : o_Ex Z ad U :=
  h.mv (by rw [hh]; exact Nat.le_refl _) (fun a _ _ => by rw [hh]) (by rw [hv]; exact State.WarmedH.refl s)
theorem o_Ex.ad {Z : o_Z} {ad ad' : Nat → Nat} {s : State} (h : o_Ex Z ad s) (e : ∀ k : Nat, 1000000 ≤ k → ad' k = ad k) : o_Ex Z ad' s := by
  obtain ⟨h1, h2, h3, h4, h5, h6, h7⟩ := h
  exact ⟨h1, h2, h3, h4, fun q hq => by rw [e _ (by omega)]; exact h5 q hq, h6.ad e, by rw [e _ (by omega)]; exact h7⟩
/-- the abstract heap h of n cells is H's, at the addresses ad -/
def o_Rp (Z : o_Z) (ad : Nat → Nat) (n : Nat) (h : Nat → o_C) (H : Heap) : Prop := va_P Z.2.1 o_cl (o_rW ad Z.2.2.1 n h) H ∧ va_D (o_A Z) (o_rW ad Z.2.2.1 n h)
end
section
/-! the judgement o_V: over abstract frames and heaps -/
abbrev o_O : Type := Option Value ⊕ String
/-- a method: its class, code, locals, answer, handlers -/
abbrev o_M : Type := String × ByteArray × Nat × Option FieldType × List (Nat × Nat × Nat × Nat)
abbrev o_P : Type := o_O → Nat → (Nat → o_C) → Prop
def o_ri : Option FieldType → Instr
  | none => .return_
  | some .long => .lreturn
  | some .float => .freturn
  | some .double => .dreturn
  | some (.object _) => .areturn
  | some (.array _) => .areturn
  | some _ => .ireturn
/-- what a method may answer -/
def o_rok : Option FieldType → Option Value → Prop
  | none, none => True
  | some .long, some (.long _) => True
  | some .float, some (.float _) => True
  | some .double, some (.double _) => True
  | some (.object _), some v => v = .null ∨ ∃ a, v = .ref a
  | some (.array _), some v => v = .null ∨ ∃ a, v = .ref a
  | some .int, some (.int _) => True
  | some .boolean, some (.int x) => narrow .boolean (.int x) = .int x
  | some .char, some (.int x) => narrow .char (.int x) = .int x
  | some .byte, some (.int x) => narrow .byte (.int x) = .int x
  | _, _ => False
/-- the addresses that may have moved -/
def o_ag (al : Nat → Prop) (ad ad' : Nat → Nat) : Prop := ∀ k : Nat, ¬ al k → ad' k = ad k
theorem o_ag.rf {al : Nat → Prop} {ad : Nat → Nat} : o_ag al ad ad := fun _ _ => rfl
theorem o_ag.tr {al bl : Nat → Prop} {a b c : Nat → Nat} (h1 : o_ag al a b) (h2 : o_ag bl b c) (hs : ∀ k, bl k → al k) : o_ag al a c := fun k hk => (h2 k (fun z => hk (hs k z))).trans (h1 k hk)
/-- the walk's fixed things -/
def o_X (l : Launch) (M : o_M) (d : Nat) (p : Program) (R : Room) (s : State) (m : MethodId) (args : Array Value) (meth : Method) (c : Code) : Prop :=
  p.tables.exec = Jvm.exec ∧ c.code = M.2.1 ∧ s.vm.findClass M.1 = some m.cls ∧ (∀ w ∈ o_gW, w.before args s = true) ∧ c.maxLocals = M.2.2.1 ∧ meth.sig.returnType = M.2.2.2.1 ∧ meth.locks = false ∧ c.exceptionTable.toList = tableOf M.2.2.2.2 ∧ l.stackTraces = false ∧ d + 8 ≤ R.frames ∧ 40 * d + 160 ≤ R.locals
/-- what is owed where the method ends -/
def o_K (l : Launch) (M : o_M) (Z : o_Z) (p : Program) (e : Env) (R : Room) (s : State) (m : MethodId) (args : Array Value) (below : List Frame) (meth : Method) (c : Code) (ad : Nat → Nat) (MC MS : Nat) (Q : State → Prop) (al : Nat → Prop) (post : o_P) : Prop :=
  (∀ (v : Option Value) (n : Nat) (h : Nat → o_C) (ad' : Nat → Nat) (H : Heap) (locs : List Loc) (cells slots pc : Nat) (la : Array Slot), post (.inl v) n h → o_ag al ad ad' → o_Rp Z ad' n h H → va_S (o_A Z) s.heap H locs → cells ≤ MC → slots ≤ MS → decode M.2.1 pc = .ok (o_ri M.2.2.2.1, 1) → o_rok M.2.2.2.1 v → W p l e R s m args below meth c H locs cells slots Q (F0 m pc la (v.toList.map (o_rV ad')))) ∧
  (∀ (E : String) (q : Addr) (ce : Cell) (n : Nat) (h : Nat → o_C) (ad' : Nat → Nat) (H : Heap) (locs : List Loc) (cells slots pc : Nat) (la : Array Slot) (rest : List Value), post (.inr E) n h → o_ag al ad ad' → o_Rp Z ad' n h H → va_S (o_A Z) s.heap H locs → cells ≤ MC → slots ≤ MS → M.2.2.2.2 = [] → H[q]? = some ce → ce.vm = .none → s.vm.findClass E = some ce.cls → vx_W p l e R s m args below meth c H locs cells slots Q (F0 m pc la rest) q)
def o_V (l : Launch) (M : o_M) (d : Nat) (al : Nat → Prop) (post : o_P) (pc : Nat) (ls : List (Nat × Value)) (st : List Value) (n : Nat) (h : Nat → o_C) (mc ms : Nat) : Prop :=
  ∀ (Z : o_Z) (p : Program) (e : Env) (R : Room) (s : State) (m : MethodId) (args : Array Value) (below : List Frame) (meth : Method) (c : Code) (ad : Nat → Nat) (H : Heap) (locs : List Loc) (cells slots MC MS : Nat) (la : Array Slot) (Q : State → Prop),
    o_X l M d p R s m args meth c → o_Ex Z ad s → va_S (o_A Z) s.heap H locs → o_Rp Z ad n h H → cells + mc ≤ MC → slots + ms ≤ MS → MC ≤ R.cells → MS ≤ R.slots → lv_has la M.2.2.1 (ls.map (fun q => (q.1, o_rV ad q.2))) →
    o_K l M Z p e R s m args below meth c ad MC MS Q al post →
    W p l e R s m args below meth c H locs cells slots Q (F0 m pc la (st.map (o_rV ad)))
section OV
variable {l : Launch} {M : o_M} {d : Nat} {al : Nat → Prop} {post : o_P} {pc : Nat} {ls : List (Nat × Value)} {st : List Value} {n : Nat} {h : Nat → o_C} {mc ms : Nat}
/-- local variables: the first row of its number -/
def o_get (ls : List (Nat × Value)) (i : Nat) : Option Value := match ls with
  | [] => none
  | q :: r => if q.1 = i then some q.2 else o_get r i
def o_set (nL : Nat) (ls : List (Nat × Value)) (i : Nat) (v : Value) : List (Nat × Value) := match ls with
  | [] => [(i, v)]
  | q :: r => if q.1 = i then (i, v) :: r else q :: o_set nL r i v
theorem o_get_mem {ls : List (Nat × Value)} {i : Nat} {v : Value} (h : o_get ls i = some v) : (i, v) ∈ ls := by
  induction ls with
  | nil => cases h
  | cons q r ih =>
    unfold o_get at h
    by_cases e : q.1 = i
    · rw [if_pos e] at h
      cases h
      rw [← e]
      exact List.mem_cons_self
    · rw [if_neg e] at h
      exact List.mem_cons_of_mem _ (ih h)
theorem o_lat {la : Array Slot} {nL : Nat} {ad : Nat → Nat} {i : Nat} {v : Value} (hl : lv_has la nL (ls.map (fun q => (q.1, o_rV ad q.2)))) (hg : o_get ls i = some v) : la[i]? = some (.val (o_rV ad v)) :=
  hl.2.2 (i, o_rV ad v) (List.mem_map.mpr ⟨_, o_get_mem hg, rfl⟩)
end OV
end
section
/-! a row for each plain instruction -/
section OR
variable {l : Launch} {M : o_M} {d : Nat} {al : Nat → Prop} {post : o_P} {pc : Nat} {ls : List (Nat × Value)} {st : List Value} {n : Nat} {h : Nat → o_C} {mc ms : Nat}
def o_s1 (ls : List (Nat × Value)) (i : Nat) (v : Value) : List (Nat × Value) := (i, v) :: ls.filter (fun q => !(q.1 == i) && !(q.1 + 1 == i && q.2.category == 2))
def o_s2 (ls : List (Nat × Value)) (i : Nat) (v : Value) : List (Nat × Value) := (i, v) :: ls.filter (fun q => !(q.1 == i) && (!(q.1 == i + 1) && !(q.1 + 1 == i && q.2.category == 2)))
theorem o_s1_map (ad : Nat → Nat) {i : Nat} {v : Value} : (o_s1 ls i v).map (fun q => (q.1, o_rV ad q.2)) = (i, o_rV ad v) :: (ls.map (fun q => (q.1, o_rV ad q.2))).filter (fun q => !(q.1 == i) && !(q.1 + 1 == i && q.2.category == 2)) := by
  simp only [o_s1, List.map_cons, List.filter_map, Function.comp_def, o_cat]
theorem o_s2_map (ad : Nat → Nat) {i : Nat} {v : Value} : (o_s2 ls i v).map (fun q => (q.1, o_rV ad q.2)) = (i, o_rV ad v) :: (ls.map (fun q => (q.1, o_rV ad q.2))).filter (fun q => !(q.1 == i) && (!(q.1 == i + 1) && !(q.1 + 1 == i && q.2.category == 2))) := by
  simp only [o_s2, List.map_cons, List.filter_map, Function.comp_def, o_cat]
theorem o_R0 : o_R 0 := ⟨by decide, by decide⟩
theorem o_nz {b : Int} (hb : o_R b) (h0 : 0 < b) : ¬ o_I b = 0 := fun q => by have := (o_eq hb o_R0).mp q; omega
theorem o_rem {a b : Int} (ha : o_R a) (hb : o_R b) (ha0 : 0 ≤ a) (h0 : 0 < b) : o_I a - o_I a / o_I b * o_I b = o_I (a % b) := by
  rw [o_div ha hb ha0 h0, o_mul, o_sub]
  congr 1
  have := Int.emod_add_mul_ediv a b
  have h2 : a / b * b = b * (a / b) := Int.mul_comm _ _
  omega
theorem o_iconst {z : Int} (hd : decode M.2.1 pc = .ok (.iconst z, 1)) (k : o_V l M d al post (pc + 1) ls (.int (o_I z) :: st) n h mc ms) : o_V l M d al post pc ls st n h mc ms := by
  intro Z p e R s m args below meth c ad H locs cells slots MC MS la Q X E S P a1 a2 a3 a4 L K
  exact lv_iconst X.1 X.2.1 hd rfl (k Z p e R s m args below meth c ad H locs cells slots MC MS la Q X E S P a1 a2 a3 a4 L K)
theorem o_bipush {z : Int} (hd : decode M.2.1 pc = .ok (.bipush z, 2)) (hv : (Int8.ofInt z).toInt32 = o_I z) (k : o_V l M d al post (pc + 2) ls (.int (o_I z) :: st) n h mc ms) : o_V l M d al post pc ls st n h mc ms := by
  intro Z p e R s m args below meth c ad H locs cells slots MC MS la Q X E S P a1 a2 a3 a4 L K
  exact lv_bipush X.1 X.2.1 hd hv (k Z p e R s m args below meth c ad H locs cells slots MC MS la Q X E S P a1 a2 a3 a4 L K)
theorem o_sipush {z : Int} (hd : decode M.2.1 pc = .ok (.sipush z, 3)) (hv : (Int16.ofInt z).toInt32 = o_I z) (k : o_V l M d al post (pc + 3) ls (.int (o_I z) :: st) n h mc ms) : o_V l M d al post pc ls st n h mc ms := by
  intro Z p e R s m args below meth c ad H locs cells slots MC MS la Q X E S P a1 a2 a3 a4 L K
  exact lv_sipush X.1 X.2.1 hd hv (k Z p e R s m args below meth c ad H locs cells slots MC MS la Q X E S P a1 a2 a3 a4 L K)
theorem o_lconst {z : Fin 2} (hd : decode M.2.1 pc = .ok (.lconst z, 1)) (k : o_V l M d al post (pc + 1) ls (.long (Int64.ofNat (z : Nat)) :: st) n h mc ms) : o_V l M d al post pc ls st n h mc ms := by
  intro Z p e R s m args below meth c ad H locs cells slots MC MS la Q X E S P a1 a2 a3 a4 L K
  exact lv_lconst X.1 X.2.1 hd rfl (k Z p e R s m args below meth c ad H locs cells slots MC MS la Q X E S P a1 a2 a3 a4 L K)
theorem o_fconst0 (hd : decode M.2.1 pc = .ok (.fconst 0, 1)) (k : o_V l M d al post (pc + 1) ls (.float 0 :: st) n h mc ms) : o_V l M d al post pc ls st n h mc ms := by
  intro Z p e R s m args below meth c ad H locs cells slots MC MS la Q X E S P a1 a2 a3 a4 L K
  exact lv_fconst0 X.1 X.2.1 hd (k Z p e R s m args below meth c ad H locs cells slots MC MS la Q X E S P a1 a2 a3 a4 L K)
theorem o_dconst0 (hd : decode M.2.1 pc = .ok (.dconst 0, 1)) (k : o_V l M d al post (pc + 1) ls (.double 0 :: st) n h mc ms) : o_V l M d al post pc ls st n h mc ms := by
  intro Z p e R s m args below meth c ad H locs cells slots MC MS la Q X E S P a1 a2 a3 a4 L K
  exact lv_dconst0 X.1 X.2.1 hd (k Z p e R s m args below meth c ad H locs cells slots MC MS la Q X E S P a1 a2 a3 a4 L K)
theorem o_null (hd : decode M.2.1 pc = .ok (.aconst_null, 1)) (k : o_V l M d al post (pc + 1) ls (.null :: st) n h mc ms) : o_V l M d al post pc ls st n h mc ms := by
  intro Z p e R s m args below meth c ad H locs cells slots MC MS la Q X E S P a1 a2 a3 a4 L K
  exact lv_null X.1 X.2.1 hd (k Z p e R s m args below meth c ad H locs cells slots MC MS la Q X E S P a1 a2 a3 a4 L K)
theorem o_ldc {i : Nat} {z : Int} (hd : decode M.2.1 pc = .ok (.ldc i, 2)) (hw : Cond.constant M.1 i (o_I z) ∈ o_gW) (k : o_V l M d al post (pc + 2) ls (.int (o_I z) :: st) n h mc ms) : o_V l M d al post pc ls st n h mc ms := by
  intro Z p e R s m args below meth c ad H locs cells slots MC MS la Q X E S P a1 a2 a3 a4 L K
  exact lv_ldc X.1 X.2.1 X.2.2.1 (X.2.2.2.1 _ hw) hd (k Z p e R s m args below meth c ad H locs cells slots MC MS la Q X E S P a1 a2 a3 a4 L K)
theorem o_iload_n {k0 : Fin 4} {x : Int32} (hd : decode M.2.1 pc = .ok (.iload_n k0, 1)) (hg : o_get ls (k0 : Nat) = some (.int x)) (k : o_V l M d al post (pc + 1) ls (.int x :: st) n h mc ms) : o_V l M d al post pc ls st n h mc ms := by
  intro Z p e R s m args below meth c ad H locs cells slots MC MS la Q X E S P a1 a2 a3 a4 L K
  exact lv_iload_n X.1 X.2.1 hd rfl (o_lat L hg) (k Z p e R s m args below meth c ad H locs cells slots MC MS la Q X E S P a1 a2 a3 a4 L K)
theorem o_iload {i : Nat} {x : Int32} (hd : decode M.2.1 pc = .ok (.iload i, 2)) (hg : o_get ls i = some (.int x)) (k : o_V l M d al post (pc + 2) ls (.int x :: st) n h mc ms) : o_V l M d al post pc ls st n h mc ms := by
  intro Z p e R s m args below meth c ad H locs cells slots MC MS la Q X E S P a1 a2 a3 a4 L K
  exact lv_iload X.1 X.2.1 hd (o_lat L hg) (k Z p e R s m args below meth c ad H locs cells slots MC MS la Q X E S P a1 a2 a3 a4 L K)
theorem o_lload_n {k0 : Fin 4} {x : Int64} (hd : decode M.2.1 pc = .ok (.lload_n k0, 1)) (hg : o_get ls (k0 : Nat) = some (.long x)) (k : o_V l M d al post (pc + 1) ls (.long x :: st) n h mc ms) : o_V l M d al post pc ls st n h mc ms := by
  intro Z p e R s m args below meth c ad H locs cells slots MC MS la Q X E S P a1 a2 a3 a4 L K
  exact lv_lload_n X.1 X.2.1 hd rfl (o_lat L hg) (k Z p e R s m args below meth c ad H locs cells slots MC MS la Q X E S P a1 a2 a3 a4 L K)
theorem o_lload {i : Nat} {x : Int64} (hd : decode M.2.1 pc = .ok (.lload i, 2)) (hg : o_get ls i = some (.long x)) (k : o_V l M d al post (pc + 2) ls (.long x :: st) n h mc ms) : o_V l M d al post pc ls st n h mc ms := by
  intro Z p e R s m args below meth c ad H locs cells slots MC MS la Q X E S P a1 a2 a3 a4 L K
  exact lv_lload X.1 X.2.1 hd (o_lat L hg) (k Z p e R s m args below meth c ad H locs cells slots MC MS la Q X E S P a1 a2 a3 a4 L K)
theorem o_fload_n {k0 : Fin 4} {x : UInt32} (hd : decode M.2.1 pc = .ok (.fload_n k0, 1)) (hg : o_get ls (k0 : Nat) = some (.float x)) (k : o_V l M d al post (pc + 1) ls (.float x :: st) n h mc ms) : o_V l M d al post pc ls st n h mc ms := by
  intro Z p e R s m args below meth c ad H locs cells slots MC MS la Q X E S P a1 a2 a3 a4 L K
  exact lv_fload_n X.1 X.2.1 hd rfl (o_lat L hg) (k Z p e R s m args below meth c ad H locs cells slots MC MS la Q X E S P a1 a2 a3 a4 L K)
theorem o_fload {i : Nat} {x : UInt32} (hd : decode M.2.1 pc = .ok (.fload i, 2)) (hg : o_get ls i = some (.float x)) (k : o_V l M d al post (pc + 2) ls (.float x :: st) n h mc ms) : o_V l M d al post pc ls st n h mc ms := by
  intro Z p e R s m args below meth c ad H locs cells slots MC MS la Q X E S P a1 a2 a3 a4 L K
  exact lv_fload X.1 X.2.1 hd (o_lat L hg) (k Z p e R s m args below meth c ad H locs cells slots MC MS la Q X E S P a1 a2 a3 a4 L K)
theorem o_dload_n {k0 : Fin 4} {x : UInt64} (hd : decode M.2.1 pc = .ok (.dload_n k0, 1)) (hg : o_get ls (k0 : Nat) = some (.double x)) (k : o_V l M d al post (pc + 1) ls (.double x :: st) n h mc ms) : o_V l M d al post pc ls st n h mc ms := by
  intro Z p e R s m args below meth c ad H locs cells slots MC MS la Q X E S P a1 a2 a3 a4 L K
  exact lv_dload_n X.1 X.2.1 hd rfl (o_lat L hg) (k Z p e R s m args below meth c ad H locs cells slots MC MS la Q X E S P a1 a2 a3 a4 L K)
theorem o_dload {i : Nat} {x : UInt64} (hd : decode M.2.1 pc = .ok (.dload i, 2)) (hg : o_get ls i = some (.double x)) (k : o_V l M d al post (pc + 2) ls (.double x :: st) n h mc ms) : o_V l M d al post pc ls st n h mc ms := by
  intro Z p e R s m args below meth c ad H locs cells slots MC MS la Q X E S P a1 a2 a3 a4 L K
  exact lv_dload X.1 X.2.1 hd (o_lat L hg) (k Z p e R s m args below meth c ad H locs cells slots MC MS la Q X E S P a1 a2 a3 a4 L K)
theorem o_aload_n {k0 : Fin 4} {x : Nat} (hd : decode M.2.1 pc = .ok (.aload_n k0, 1)) (hg : o_get ls (k0 : Nat) = some (.ref x)) (k : o_V l M d al post (pc + 1) ls (.ref x :: st) n h mc ms) : o_V l M d al post pc ls st n h mc ms := by
  intro Z p e R s m args below meth c ad H locs cells slots MC MS la Q X E S P a1 a2 a3 a4 L K
  exact lv_aload_n X.1 X.2.1 hd rfl (o_lat L hg) (k Z p e R s m args below meth c ad H locs cells slots MC MS la Q X E S P a1 a2 a3 a4 L K)
theorem o_aload {i : Nat} {x : Nat} (hd : decode M.2.1 pc = .ok (.aload i, 2)) (hg : o_get ls i = some (.ref x)) (k : o_V l M d al post (pc + 2) ls (.ref x :: st) n h mc ms) : o_V l M d al post pc ls st n h mc ms := by
  intro Z p e R s m args below meth c ad H locs cells slots MC MS la Q X E S P a1 a2 a3 a4 L K
  exact lv_aload X.1 X.2.1 hd (o_lat L hg) (k Z p e R s m args below meth c ad H locs cells slots MC MS la Q X E S P a1 a2 a3 a4 L K)
theorem o_aload_nN {k0 : Fin 4} (hd : decode M.2.1 pc = .ok (.aload_n k0, 1)) (hg : o_get ls (k0 : Nat) = some .null) (k : o_V l M d al post (pc + 1) ls (.null :: st) n h mc ms) : o_V l M d al post pc ls st n h mc ms := by
  intro Z p e R s m args below meth c ad H locs cells slots MC MS la Q X E S P a1 a2 a3 a4 L K
  exact lv_aload_nN X.1 X.2.1 hd rfl (o_lat L hg) (k Z p e R s m args below meth c ad H locs cells slots MC MS la Q X E S P a1 a2 a3 a4 L K)
theorem o_istore_n {k0 : Fin 4} {x : Int32} (hd : decode M.2.1 pc = .ok (.istore_n k0, 1)) (hn : (k0 : Nat) < M.2.2.1) (k : o_V l M d al post (pc + 1) (o_s1 ls (k0 : Nat) (.int x)) st n h mc ms) : o_V l M d al post pc ls (.int x :: st) n h mc ms := by
  intro Z p e R s m args below meth c ad H locs cells slots MC MS la Q X E S P a1 a2 a3 a4 L K
  exact lv_istore_n X.1 X.2.1 hd rfl L hn (o_s1_map ad (v := .int x)).symm (fun la' L' => (k Z p e R s m args below meth c ad H locs cells slots MC MS la' Q X E S P a1 a2 a3 a4 L' K))
theorem o_istore {i : Nat} {x : Int32} (hd : decode M.2.1 pc = .ok (.istore i, 2)) (hn : i < M.2.2.1) (k : o_V l M d al post (pc + 2) (o_s1 ls i (.int x)) st n h mc ms) : o_V l M d al post pc ls (.int x :: st) n h mc ms := by
  intro Z p e R s m args below meth c ad H locs cells slots MC MS la Q X E S P a1 a2 a3 a4 L K
  exact lv_istore X.1 X.2.1 hd L hn (o_s1_map ad (v := .int x)).symm (fun la' L' => (k Z p e R s m args below meth c ad H locs cells slots MC MS la' Q X E S P a1 a2 a3 a4 L' K))
theorem o_fstore_n {k0 : Fin 4} {x : UInt32} (hd : decode M.2.1 pc = .ok (.fstore_n k0, 1)) (hn : (k0 : Nat) < M.2.2.1) (k : o_V l M d al post (pc + 1) (o_s1 ls (k0 : Nat) (.float x)) st n h mc ms) : o_V l M d al post pc ls (.float x :: st) n h mc ms := by
  intro Z p e R s m args below meth c ad H locs cells slots MC MS la Q X E S P a1 a2 a3 a4 L K
  exact lv_fstore_n X.1 X.2.1 hd rfl L hn (o_s1_map ad (v := .float x)).symm (fun la' L' => (k Z p e R s m args below meth c ad H locs cells slots MC MS la' Q X E S P a1 a2 a3 a4 L' K))
theorem o_fstore {i : Nat} {x : UInt32} (hd : decode M.2.1 pc = .ok (.fstore i, 2)) (hn : i < M.2.2.1) (k : o_V l M d al post (pc + 2) (o_s1 ls i (.float x)) st n h mc ms) : o_V l M d al post pc ls (.float x :: st) n h mc ms := by
  intro Z p e R s m args below meth c ad H locs cells slots MC MS la Q X E S P a1 a2 a3 a4 L K
  exact lv_fstore X.1 X.2.1 hd L hn (o_s1_map ad (v := .float x)).symm (fun la' L' => (k Z p e R s m args below meth c ad H locs cells slots MC MS la' Q X E S P a1 a2 a3 a4 L' K))
theorem o_astore_n {k0 : Fin 4} {x : Nat} (hd : decode M.2.1 pc = .ok (.astore_n k0, 1)) (hn : (k0 : Nat) < M.2.2.1) (k : o_V l M d al post (pc + 1) (o_s1 ls (k0 : Nat) (.ref x)) st n h mc ms) : o_V l M d al post pc ls (.ref x :: st) n h mc ms := by
  intro Z p e R s m args below meth c ad H locs cells slots MC MS la Q X E S P a1 a2 a3 a4 L K
  exact lv_astore_n X.1 X.2.1 hd rfl L hn (o_s1_map ad (v := .ref x)).symm (fun la' L' => (k Z p e R s m args below meth c ad H locs cells slots MC MS la' Q X E S P a1 a2 a3 a4 L' K))
theorem o_astore {i : Nat} {x : Nat} (hd : decode M.2.1 pc = .ok (.astore i, 2)) (hn : i < M.2.2.1) (k : o_V l M d al post (pc + 2) (o_s1 ls i (.ref x)) st n h mc ms) : o_V l M d al post pc ls (.ref x :: st) n h mc ms := by
  intro Z p e R s m args below meth c ad H locs cells slots MC MS la Q X E S P a1 a2 a3 a4 L K
  exact lv_astore X.1 X.2.1 hd L hn (o_s1_map ad (v := .ref x)).symm (fun la' L' => (k Z p e R s m args below meth c ad H locs cells slots MC MS la' Q X E S P a1 a2 a3 a4 L' K))
theorem o_lstore_n {k0 : Fin 4} {x : Int64} (hd : decode M.2.1 pc = .ok (.lstore_n k0, 1)) (hn : (k0 : Nat) + 1 < M.2.2.1) (k : o_V l M d al post (pc + 1) (o_s2 ls (k0 : Nat) (.long x)) st n h mc ms) : o_V l M d al post pc ls (.long x :: st) n h mc ms := by
  intro Z p e R s m args below meth c ad H locs cells slots MC MS la Q X E S P a1 a2 a3 a4 L K
  exact lv_lstore_n X.1 X.2.1 hd rfl L hn (o_s2_map ad (v := .long x)).symm (fun la' L' => (k Z p e R s m args below meth c ad H locs cells slots MC MS la' Q X E S P a1 a2 a3 a4 L' K))
theorem o_lstore {i : Nat} {x : Int64} (hd : decode M.2.1 pc = .ok (.lstore i, 2)) (hn : i + 1 < M.2.2.1) (k : o_V l M d al post (pc + 2) (o_s2 ls i (.long x)) st n h mc ms) : o_V l M d al post pc ls (.long x :: st) n h mc ms := by
  intro Z p e R s m args below meth c ad H locs cells slots MC MS la Q X E S P a1 a2 a3 a4 L K
  exact lv_lstore X.1 X.2.1 hd L hn (o_s2_map ad (v := .long x)).symm (fun la' L' => (k Z p e R s m args below meth c ad H locs cells slots MC MS la' Q X E S P a1 a2 a3 a4 L' K))
theorem o_dstore_n {k0 : Fin 4} {x : UInt64} (hd : decode M.2.1 pc = .ok (.dstore_n k0, 1)) (hn : (k0 : Nat) + 1 < M.2.2.1) (k : o_V l M d al post (pc + 1) (o_s2 ls (k0 : Nat) (.double x)) st n h mc ms) : o_V l M d al post pc ls (.double x :: st) n h mc ms := by
  intro Z p e R s m args below meth c ad H locs cells slots MC MS la Q X E S P a1 a2 a3 a4 L K
  exact lv_dstore_n X.1 X.2.1 hd rfl L hn (o_s2_map ad (v := .double x)).symm (fun la' L' => (k Z p e R s m args below meth c ad H locs cells slots MC MS la' Q X E S P a1 a2 a3 a4 L' K))
theorem o_dstore {i : Nat} {x : UInt64} (hd : decode M.2.1 pc = .ok (.dstore i, 2)) (hn : i + 1 < M.2.2.1) (k : o_V l M d al post (pc + 2) (o_s2 ls i (.double x)) st n h mc ms) : o_V l M d al post pc ls (.double x :: st) n h mc ms := by
  intro Z p e R s m args below meth c ad H locs cells slots MC MS la Q X E S P a1 a2 a3 a4 L K
  exact lv_dstore X.1 X.2.1 hd L hn (o_s2_map ad (v := .double x)).symm (fun la' L' => (k Z p e R s m args below meth c ad H locs cells slots MC MS la' Q X E S P a1 a2 a3 a4 L' K))
theorem o_astore_nN {k0 : Fin 4} (hd : decode M.2.1 pc = .ok (.astore_n k0, 1)) (hn : (k0 : Nat) < M.2.2.1) (k : o_V l M d al post (pc + 1) (o_s1 ls (k0 : Nat) .null) st n h mc ms) : o_V l M d al post pc ls (.null :: st) n h mc ms := by
  intro Z p e R s m args below meth c ad H locs cells slots MC MS la Q X E S P a1 a2 a3 a4 L K
  exact lv_astore_nN X.1 X.2.1 hd rfl L hn (o_s1_map ad (v := .null)).symm (fun la' L' => (k Z p e R s m args below meth c ad H locs cells slots MC MS la' Q X E S P a1 a2 a3 a4 L' K))
theorem o_iinc {i : Nat} {z a : Int} (hd : decode M.2.1 pc = .ok (.iinc i z, 3)) (hg : o_get ls i = some (.int (o_I a))) (hn : i < M.2.2.1) (k : o_V l M d al post (pc + 3) (o_s1 ls i (.int (o_I (a + z)))) st n h mc ms) : o_V l M d al post pc ls st n h mc ms := by
  intro Z p e R s m args below meth c ad H locs cells slots MC MS la Q X E S P a1 a2 a3 a4 L K
  obtain ⟨k0, hk0⟩ := List.getElem?_of_mem (o_get_mem hg)
  exact lv_iinc X.1 X.2.1 hd L (k := k0) (x := o_I a) (by rw [List.getElem?_map, hk0]; rfl) (o_add a z) hn (o_s1_map ad (v := .int (o_I (a + z)))).symm (fun la' L' => (k Z p e R s m args below meth c ad H locs cells slots MC MS la' Q X E S P a1 a2 a3 a4 L' K))
theorem o_iadd {a b : Int} (hd : decode M.2.1 pc = .ok (.iadd, 1)) (k : o_V l M d al post (pc + 1) ls (.int (o_I (a + b)) :: st) n h mc ms) : o_V l M d al post pc ls (.int (o_I b) :: .int (o_I a) :: st) n h mc ms := by
  intro Z p e R s m args below meth c ad H locs cells slots MC MS la Q X E S P a1 a2 a3 a4 L K
  have k9 := k Z p e R s m args below meth c ad H locs cells slots MC MS la Q X E S P a1 a2 a3 a4 L K
  rw [List.map_cons, show o_rV ad (.int (o_I (a + b))) = .int (o_I a + o_I b) from congrArg Value.int (o_add a b).symm] at k9
  exact lv_iadd X.1 X.2.1 hd k9
theorem o_isub {a b : Int} (hd : decode M.2.1 pc = .ok (.isub, 1)) (k : o_V l M d al post (pc + 1) ls (.int (o_I (a - b)) :: st) n h mc ms) : o_V l M d al post pc ls (.int (o_I b) :: .int (o_I a) :: st) n h mc ms := by
  intro Z p e R s m args below meth c ad H locs cells slots MC MS la Q X E S P a1 a2 a3 a4 L K
  have k9 := k Z p e R s m args below meth c ad H locs cells slots MC MS la Q X E S P a1 a2 a3 a4 L K
  rw [List.map_cons, show o_rV ad (.int (o_I (a - b))) = .int (o_I a - o_I b) from congrArg Value.int (o_sub a b).symm] at k9
  exact lv_isub X.1 X.2.1 hd k9
theorem o_imul {a b : Int} (hd : decode M.2.1 pc = .ok (.imul, 1)) (k : o_V l M d al post (pc + 1) ls (.int (o_I (a * b)) :: st) n h mc ms) : o_V l M d al post pc ls (.int (o_I b) :: .int (o_I a) :: st) n h mc ms := by
  intro Z p e R s m args below meth c ad H locs cells slots MC MS la Q X E S P a1 a2 a3 a4 L K
  have k9 := k Z p e R s m args below meth c ad H locs cells slots MC MS la Q X E S P a1 a2 a3 a4 L K
  rw [List.map_cons, show o_rV ad (.int (o_I (a * b))) = .int (o_I a * o_I b) from congrArg Value.int (o_mul a b).symm] at k9
  exact lv_imul X.1 X.2.1 hd k9
theorem o_idiv {a b : Int} (hd : decode M.2.1 pc = .ok (.idiv, 1)) (ha : o_R a) (hb : o_R b) (ha0 : 0 ≤ a) (hb0 : 0 < b) (k : o_V l M d al post (pc + 1) ls (.int (o_I (a / b)) :: st) n h mc ms) : o_V l M d al post pc ls (.int (o_I b) :: .int (o_I a) :: st) n h mc ms := by
  intro Z p e R s m args below meth c ad H locs cells slots MC MS la Q X E S P a1 a2 a3 a4 L K
  have k9 := k Z p e R s m args below meth c ad H locs cells slots MC MS la Q X E S P a1 a2 a3 a4 L K
  rw [List.map_cons, show o_rV ad (.int (o_I (a / b))) = .int (o_I a / o_I b) from congrArg Value.int (o_div ha hb ha0 hb0).symm] at k9
  exact lv_idiv X.1 X.2.1 hd (o_nz hb hb0) k9
theorem o_irem {a b : Int} (hd : decode M.2.1 pc = .ok (.irem, 1)) (ha : o_R a) (hb : o_R b) (ha0 : 0 ≤ a) (hb0 : 0 < b) (k : o_V l M d al post (pc + 1) ls (.int (o_I (a % b)) :: st) n h mc ms) : o_V l M d al post pc ls (.int (o_I b) :: .int (o_I a) :: st) n h mc ms := by
  intro Z p e R s m args below meth c ad H locs cells slots MC MS la Q X E S P a1 a2 a3 a4 L K
  have k9 := k Z p e R s m args below meth c ad H locs cells slots MC MS la Q X E S P a1 a2 a3 a4 L K
  rw [List.map_cons, show o_rV ad (.int (o_I (a % b))) = .int (o_I a - o_I a / o_I b * o_I b) from congrArg Value.int (o_rem ha hb ha0 hb0).symm] at k9
  exact lv_irem X.1 X.2.1 hd (o_nz hb hb0) k9
theorem o_iand {x y : Int32} (hd : decode M.2.1 pc = .ok (.iand, 1)) (k : o_V l M d al post (pc + 1) ls (.int (x &&& y) :: st) n h mc ms) : o_V l M d al post pc ls (.int y :: .int x :: st) n h mc ms := by
  intro Z p e R s m args below meth c ad H locs cells slots MC MS la Q X E S P a1 a2 a3 a4 L K
  exact lv_iand X.1 X.2.1 hd (k Z p e R s m args below meth c ad H locs cells slots MC MS la Q X E S P a1 a2 a3 a4 L K)
theorem o_ishr {x y : Int32} (hd : decode M.2.1 pc = .ok (.ishr, 1)) (k : o_V l M d al post (pc + 1) ls (.int (x >>> (y &&& 31)) :: st) n h mc ms) : o_V l M d al post pc ls (.int y :: .int x :: st) n h mc ms := by
  intro Z p e R s m args below meth c ad H locs cells slots MC MS la Q X E S P a1 a2 a3 a4 L K
  exact lv_ishr X.1 X.2.1 hd (k Z p e R s m args below meth c ad H locs cells slots MC MS la Q X E S P a1 a2 a3 a4 L K)
theorem o_i2c {x : Int32} (hd : decode M.2.1 pc = .ok (.i2c, 1)) (k : o_V l M d al post (pc + 1) ls (.int (x.toUInt32 % 65536).toInt32 :: st) n h mc ms) : o_V l M d al post pc ls (.int x :: st) n h mc ms := by
  intro Z p e R s m args below meth c ad H locs cells slots MC MS la Q X E S P a1 a2 a3 a4 L K
  exact lv_i2c X.1 X.2.1 hd rfl (k Z p e R s m args below meth c ad H locs cells slots MC MS la Q X E S P a1 a2 a3 a4 L K)
theorem o_i2b {x : Int32} (hd : decode M.2.1 pc = .ok (.i2b, 1)) (k : o_V l M d al post (pc + 1) ls (.int x.toInt8.toInt32 :: st) n h mc ms) : o_V l M d al post pc ls (.int x :: st) n h mc ms := by
  intro Z p e R s m args below meth c ad H locs cells slots MC MS la Q X E S P a1 a2 a3 a4 L K
  exact lv_i2b X.1 X.2.1 hd rfl (k Z p e R s m args below meth c ad H locs cells slots MC MS la Q X E S P a1 a2 a3 a4 L K)
theorem o_i2l {x : Int32} (hd : decode M.2.1 pc = .ok (.i2l, 1)) (k : o_V l M d al post (pc + 1) ls (.long x.toInt64 :: st) n h mc ms) : o_V l M d al post pc ls (.int x :: st) n h mc ms := by
  intro Z p e R s m args below meth c ad H locs cells slots MC MS la Q X E S P a1 a2 a3 a4 L K
  exact lv_i2l X.1 X.2.1 hd rfl (k Z p e R s m args below meth c ad H locs cells slots MC MS la Q X E S P a1 a2 a3 a4 L K)
theorem o_i2d {x : Int32} (hd : decode M.2.1 pc = .ok (.i2d, 1)) (k : o_V l M d al post (pc + 1) ls (.double (FP.i2d x) :: st) n h mc ms) : o_V l M d al post pc ls (.int x :: st) n h mc ms := by
  intro Z p e R s m args below meth c ad H locs cells slots MC MS la Q X E S P a1 a2 a3 a4 L K
  exact lv_i2d X.1 X.2.1 hd (k Z p e R s m args below meth c ad H locs cells slots MC MS la Q X E S P a1 a2 a3 a4 L K)
theorem o_i2f {x : Int32} (hd : decode M.2.1 pc = .ok (.i2f, 1)) (k : o_V l M d al post (pc + 1) ls (.float (FP.i2f x) :: st) n h mc ms) : o_V l M d al post pc ls (.int x :: st) n h mc ms := by
  intro Z p e R s m args below meth c ad H locs cells slots MC MS la Q X E S P a1 a2 a3 a4 L K
  exact lv_i2f X.1 X.2.1 hd (k Z p e R s m args below meth c ad H locs cells slots MC MS la Q X E S P a1 a2 a3 a4 L K)
theorem o_f2d {x : UInt32} (hd : decode M.2.1 pc = .ok (.f2d, 1)) (hne : vf_n64 (FP.f2d x)) (k : o_V l M d al post (pc + 1) ls (.double (FP.f2d x) :: st) n h mc ms) : o_V l M d al post pc ls (.float x :: st) n h mc ms := by
  intro Z p e R s m args below meth c ad H locs cells slots MC MS la Q X E S P a1 a2 a3 a4 L K
  exact lv_f2d X.1 X.2.1 hd hne (k Z p e R s m args below meth c ad H locs cells slots MC MS la Q X E S P a1 a2 a3 a4 L K)
theorem o_ddiv {x y : UInt64} (hd : decode M.2.1 pc = .ok (.ddiv, 1)) (hne : vf_n64 (FP.ddiv x y)) (k : o_V l M d al post (pc + 1) ls (.double (FP.ddiv x y) :: st) n h mc ms) : o_V l M d al post pc ls (.double y :: .double x :: st) n h mc ms := by
  intro Z p e R s m args below meth c ad H locs cells slots MC MS la Q X E S P a1 a2 a3 a4 L K
  exact lv_ddiv X.1 X.2.1 hd hne (k Z p e R s m args below meth c ad H locs cells slots MC MS la Q X E S P a1 a2 a3 a4 L K)
theorem o_fdiv {x y : UInt32} (hd : decode M.2.1 pc = .ok (.fdiv, 1)) (hne : vf_n32 (FP.fdiv x y)) (k : o_V l M d al post (pc + 1) ls (.float (FP.fdiv x y) :: st) n h mc ms) : o_V l M d al post pc ls (.float y :: .float x :: st) n h mc ms := by
  intro Z p e R s m args below meth c ad H locs cells slots MC MS la Q X E S P a1 a2 a3 a4 L K
  exact lv_fdiv X.1 X.2.1 hd hne (k Z p e R s m args below meth c ad H locs cells slots MC MS la Q X E S P a1 a2 a3 a4 L K)
theorem o_lcmp {x y : Int64} (hd : decode M.2.1 pc = .ok (.lcmp, 1)) (k : o_V l M d al post (pc + 1) ls (.int (lg_cmp x y) :: st) n h mc ms) : o_V l M d al post pc ls (.long y :: .long x :: st) n h mc ms := by
  intro Z p e R s m args below meth c ad H locs cells slots MC MS la Q X E S P a1 a2 a3 a4 L K
  exact W.lcmp X.1 X.2.1 hd (k Z p e R s m args below meth c ad H locs cells slots MC MS la Q X E S P a1 a2 a3 a4 L K)
theorem o_dcmp {x y : UInt64} {op : CmpOp} (hd : decode M.2.1 pc = .ok (.dcmp op, 1)) (k : o_V l M d al post (pc + 1) ls (.int (Op.cmpValue (FP.dcmp x y) op) :: st) n h mc ms) : o_V l M d al post pc ls (.double y :: .double x :: st) n h mc ms := by
  intro Z p e R s m args below meth c ad H locs cells slots MC MS la Q X E S P a1 a2 a3 a4 L K
  exact lv_dcmp X.1 X.2.1 hd (k Z p e R s m args below meth c ad H locs cells slots MC MS la Q X E S P a1 a2 a3 a4 L K)
theorem o_fcmp {x y : UInt32} {op : CmpOp} (hd : decode M.2.1 pc = .ok (.fcmp op, 1)) (k : o_V l M d al post (pc + 1) ls (.int (Op.cmpValue (FP.fcmp x y) op) :: st) n h mc ms) : o_V l M d al post pc ls (.float y :: .float x :: st) n h mc ms := by
  intro Z p e R s m args below meth c ad H locs cells slots MC MS la Q X E S P a1 a2 a3 a4 L K
  exact lv_fcmp X.1 X.2.1 hd (k Z p e R s m args below meth c ad H locs cells slots MC MS la Q X E S P a1 a2 a3 a4 L K)
theorem o_dup {u : Value} (hd : decode M.2.1 pc = .ok (.dup, 1)) (hu : u.category = 1) (k : o_V l M d al post (pc + 1) ls (u :: u :: st) n h mc ms) : o_V l M d al post pc ls (u :: st) n h mc ms := by
  intro Z p e R s m args below meth c ad H locs cells slots MC MS la Q X E S P a1 a2 a3 a4 L K
  exact lv_dup X.1 X.2.1 hd (by rw [o_cat]; exact hu) (k Z p e R s m args below meth c ad H locs cells slots MC MS la Q X E S P a1 a2 a3 a4 L K)
theorem o_pop {u : Value} (hd : decode M.2.1 pc = .ok (.pop, 1)) (hu : u.category = 1) (k : o_V l M d al post (pc + 1) ls st n h mc ms) : o_V l M d al post pc ls (u :: st) n h mc ms := by
  intro Z p e R s m args below meth c ad H locs cells slots MC MS la Q X E S P a1 a2 a3 a4 L K
  exact lv_pop X.1 X.2.1 hd (by rw [o_cat]; exact hu) (k Z p e R s m args below meth c ad H locs cells slots MC MS la Q X E S P a1 a2 a3 a4 L K)
theorem o_dup2 {u v : Value} (hd : decode M.2.1 pc = .ok (.dup2, 1)) (hu : u.category = 1) (hv : v.category = 1) (k : o_V l M d al post (pc + 1) ls (u :: v :: u :: v :: st) n h mc ms) : o_V l M d al post pc ls (u :: v :: st) n h mc ms := by
  intro Z p e R s m args below meth c ad H locs cells slots MC MS la Q X E S P a1 a2 a3 a4 L K
  exact lv_dup2_11 X.1 X.2.1 hd (by rw [o_cat]; exact hu) (by rw [o_cat]; exact hv) (k Z p e R s m args below meth c ad H locs cells slots MC MS la Q X E S P a1 a2 a3 a4 L K)
theorem o_dup_x1 {u v : Value} (hd : decode M.2.1 pc = .ok (.dup_x1, 1)) (hu : u.category = 1) (hv : v.category = 1) (k : o_V l M d al post (pc + 1) ls (u :: v :: u :: st) n h mc ms) : o_V l M d al post pc ls (u :: v :: st) n h mc ms := by
  intro Z p e R s m args below meth c ad H locs cells slots MC MS la Q X E S P a1 a2 a3 a4 L K
  exact lv_dup_x1 X.1 X.2.1 hd (by rw [o_cat]; exact hu) (by rw [o_cat]; exact hv) (k Z p e R s m args below meth c ad H locs cells slots MC MS la Q X E S P a1 a2 a3 a4 L K)
theorem o_dup_x2 {u v w : Value} (hd : decode M.2.1 pc = .ok (.dup_x2, 1)) (hu : u.category = 1) (hv : v.category = 1) (hw : w.category = 1) (k : o_V l M d al post (pc + 1) ls (u :: v :: w :: u :: st) n h mc ms) : o_V l M d al post pc ls (u :: v :: w :: st) n h mc ms := by
  intro Z p e R s m args below meth c ad H locs cells slots MC MS la Q X E S P a1 a2 a3 a4 L K
  exact lv_dup_x2 X.1 X.2.1 hd (by rw [o_cat]; exact hu) (by rw [o_cat]; exact hv) (by rw [o_cat]; exact hw) (k Z p e R s m args below meth c ad H locs cells slots MC MS la Q X E S P a1 a2 a3 a4 L K)
theorem o_icmp_eq {a b : Int} {off : Int} {tgt : Nat} (hd : decode M.2.1 pc = .ok (.if_icmp .eq off, 3)) (ht : (pc : Int) + off = (tgt : Int)) (ha : o_R a) (hb : o_R b) (k1 : a = b → o_V l M d al post tgt ls st n h mc ms) (k2 : ¬ (a = b) → o_V l M d al post (pc + 3) ls st n h mc ms) : o_V l M d al post pc ls (.int (o_I b) :: .int (o_I a) :: st) n h mc ms := by
  intro Z p e R s m args below meth c ad H locs cells slots MC MS la Q X E S P a1 a2 a3 a4 L K
  exact lv_icmp_eq X.1 X.2.1 hd ht (fun q => k1 ((o_eq ha hb).mp q) Z p e R s m args below meth c ad H locs cells slots MC MS la Q X E S P a1 a2 a3 a4 L K) (fun q => k2 (fun z => q ((o_eq ha hb).mpr z)) Z p e R s m args below meth c ad H locs cells slots MC MS la Q X E S P a1 a2 a3 a4 L K)
theorem o_if_eq {a : Int} {off : Int} {tgt : Nat} (hd : decode M.2.1 pc = .ok (.ifCond .eq off, 3)) (ht : (pc : Int) + off = (tgt : Int)) (ha : o_R a) (k1 : a = 0 → o_V l M d al post tgt ls st n h mc ms) (k2 : ¬ (a = 0) → o_V l M d al post (pc + 3) ls st n h mc ms) : o_V l M d al post pc ls (.int (o_I a) :: st) n h mc ms := by
  intro Z p e R s m args below meth c ad H locs cells slots MC MS la Q X E S P a1 a2 a3 a4 L K
  exact lv_if_eq X.1 X.2.1 hd ht (fun q => k1 ((o_eq ha o_R0).mp q) Z p e R s m args below meth c ad H locs cells slots MC MS la Q X E S P a1 a2 a3 a4 L K) (fun q => k2 (fun z => q ((o_eq ha o_R0).mpr z)) Z p e R s m args below meth c ad H locs cells slots MC MS la Q X E S P a1 a2 a3 a4 L K)
theorem o_icmp_ne {a b : Int} {off : Int} {tgt : Nat} (hd : decode M.2.1 pc = .ok (.if_icmp .ne off, 3)) (ht : (pc : Int) + off = (tgt : Int)) (ha : o_R a) (hb : o_R b) (k1 : ¬ a = b → o_V l M d al post tgt ls st n h mc ms) (k2 : a = b → o_V l M d al post (pc + 3) ls st n h mc ms) : o_V l M d al post pc ls (.int (o_I b) :: .int (o_I a) :: st) n h mc ms := by
  intro Z p e R s m args below meth c ad H locs cells slots MC MS la Q X E S P a1 a2 a3 a4 L K
  exact lv_icmp_ne X.1 X.2.1 hd ht (fun q => k1 (fun z => q ((o_eq ha hb).mpr z)) Z p e R s m args below meth c ad H locs cells slots MC MS la Q X E S P a1 a2 a3 a4 L K) (fun q => k2 ((o_eq ha hb).mp q) Z p e R s m args below meth c ad H locs cells slots MC MS la Q X E S P a1 a2 a3 a4 L K)
theorem o_if_ne {a : Int} {off : Int} {tgt : Nat} (hd : decode M.2.1 pc = .ok (.ifCond .ne off, 3)) (ht : (pc : Int) + off = (tgt : Int)) (ha : o_R a) (k1 : ¬ a = 0 → o_V l M d al post tgt ls st n h mc ms) (k2 : a = 0 → o_V l M d al post (pc + 3) ls st n h mc ms) : o_V l M d al post pc ls (.int (o_I a) :: st) n h mc ms := by
  intro Z p e R s m args below meth c ad H locs cells slots MC MS la Q X E S P a1 a2 a3 a4 L K
  exact lv_if_ne X.1 X.2.1 hd ht (fun q => k1 (fun z => q ((o_eq ha o_R0).mpr z)) Z p e R s m args below meth c ad H locs cells slots MC MS la Q X E S P a1 a2 a3 a4 L K) (fun q => k2 ((o_eq ha o_R0).mp q) Z p e R s m args below meth c ad H locs cells slots MC MS la Q X E S P a1 a2 a3 a4 L K)
theorem o_ifx_ne {x : Int32} {off : Int} {tgt : Nat} (hd : decode M.2.1 pc = .ok (.ifCond .ne off, 3)) (ht : (pc : Int) + off = (tgt : Int)) (k1 : ¬ x = 0 → o_V l M d al post tgt ls st n h mc ms) (k2 : x = 0 → o_V l M d al post (pc + 3) ls st n h mc ms) : o_V l M d al post pc ls (.int x :: st) n h mc ms := by
  intro Z p e R s m args below meth c ad H locs cells slots MC MS la Q X E S P a1 a2 a3 a4 L K
  exact lv_if_ne X.1 X.2.1 hd ht (fun q => k1 q Z p e R s m args below meth c ad H locs cells slots MC MS la Q X E S P a1 a2 a3 a4 L K) (fun q => k2 q Z p e R s m args below meth c ad H locs cells slots MC MS la Q X E S P a1 a2 a3 a4 L K)
theorem o_icmp_lt {a b : Int} {off : Int} {tgt : Nat} (hd : decode M.2.1 pc = .ok (.if_icmp .lt off, 3)) (ht : (pc : Int) + off = (tgt : Int)) (ha : o_R a) (hb : o_R b) (k1 : a < b → o_V l M d al post tgt ls st n h mc ms) (k2 : ¬ (a < b) → o_V l M d al post (pc + 3) ls st n h mc ms) : o_V l M d al post pc ls (.int (o_I b) :: .int (o_I a) :: st) n h mc ms := by
  intro Z p e R s m args below meth c ad H locs cells slots MC MS la Q X E S P a1 a2 a3 a4 L K
  exact lv_icmp_lt X.1 X.2.1 hd ht (fun q => k1 ((o_lt ha hb).mp q) Z p e R s m args below meth c ad H locs cells slots MC MS la Q X E S P a1 a2 a3 a4 L K) (fun q => k2 (fun z => q ((o_lt ha hb).mpr z)) Z p e R s m args below meth c ad H locs cells slots MC MS la Q X E S P a1 a2 a3 a4 L K)
theorem o_if_lt {a : Int} {off : Int} {tgt : Nat} (hd : decode M.2.1 pc = .ok (.ifCond .lt off, 3)) (ht : (pc : Int) + off = (tgt : Int)) (ha : o_R a) (k1 : a < 0 → o_V l M d al post tgt ls st n h mc ms) (k2 : ¬ (a < 0) → o_V l M d al post (pc + 3) ls st n h mc ms) : o_V l M d al post pc ls (.int (o_I a) :: st) n h mc ms := by
  intro Z p e R s m args below meth c ad H locs cells slots MC MS la Q X E S P a1 a2 a3 a4 L K
  exact lv_if_lt X.1 X.2.1 hd ht (fun q => k1 ((o_lt ha o_R0).mp q) Z p e R s m args below meth c ad H locs cells slots MC MS la Q X E S P a1 a2 a3 a4 L K) (fun q => k2 (fun z => q ((o_lt ha o_R0).mpr z)) Z p e R s m args below meth c ad H locs cells slots MC MS la Q X E S P a1 a2 a3 a4 L K)
theorem o_icmp_ge {a b : Int} {off : Int} {tgt : Nat} (hd : decode M.2.1 pc = .ok (.if_icmp .ge off, 3)) (ht : (pc : Int) + off = (tgt : Int)) (ha : o_R a) (hb : o_R b) (k1 : b ≤ a → o_V l M d al post tgt ls st n h mc ms) (k2 : ¬ (b ≤ a) → o_V l M d al post (pc + 3) ls st n h mc ms) : o_V l M d al post pc ls (.int (o_I b) :: .int (o_I a) :: st) n h mc ms := by
  intro Z p e R s m args below meth c ad H locs cells slots MC MS la Q X E S P a1 a2 a3 a4 L K
  exact lv_icmp_ge X.1 X.2.1 hd ht (fun q => k1 ((o_le hb ha).mp q) Z p e R s m args below meth c ad H locs cells slots MC MS la Q X E S P a1 a2 a3 a4 L K) (fun q => k2 (fun z => q ((o_le hb ha).mpr z)) Z p e R s m args below meth c ad H locs cells slots MC MS la Q X E S P a1 a2 a3 a4 L K)
theorem o_if_ge {a : Int} {off : Int} {tgt : Nat} (hd : decode M.2.1 pc = .ok (.ifCond .ge off, 3)) (ht : (pc : Int) + off = (tgt : Int)) (ha : o_R a) (k1 : 0 ≤ a → o_V l M d al post tgt ls st n h mc ms) (k2 : ¬ (0 ≤ a) → o_V l M d al post (pc + 3) ls st n h mc ms) : o_V l M d al post pc ls (.int (o_I a) :: st) n h mc ms := by
  intro Z p e R s m args below meth c ad H locs cells slots MC MS la Q X E S P a1 a2 a3 a4 L K
  exact lv_if_ge X.1 X.2.1 hd ht (fun q => k1 ((o_le o_R0 ha).mp q) Z p e R s m args below meth c ad H locs cells slots MC MS la Q X E S P a1 a2 a3 a4 L K) (fun q => k2 (fun z => q ((o_le o_R0 ha).mpr z)) Z p e R s m args below meth c ad H locs cells slots MC MS la Q X E S P a1 a2 a3 a4 L K)
theorem o_icmp_gt {a b : Int} {off : Int} {tgt : Nat} (hd : decode M.2.1 pc = .ok (.if_icmp .gt off, 3)) (ht : (pc : Int) + off = (tgt : Int)) (ha : o_R a) (hb : o_R b) (k1 : b < a → o_V l M d al post tgt ls st n h mc ms) (k2 : ¬ (b < a) → o_V l M d al post (pc + 3) ls st n h mc ms) : o_V l M d al post pc ls (.int (o_I b) :: .int (o_I a) :: st) n h mc ms := by
  intro Z p e R s m args below meth c ad H locs cells slots MC MS la Q X E S P a1 a2 a3 a4 L K
  exact lv_icmp_gt X.1 X.2.1 hd ht (fun q => k1 ((o_lt hb ha).mp q) Z p e R s m args below meth c ad H locs cells slots MC MS la Q X E S P a1 a2 a3 a4 L K) (fun q => k2 (fun z => q ((o_lt hb ha).mpr z)) Z p e R s m args below meth c ad H locs cells slots MC MS la Q X E S P a1 a2 a3 a4 L K)
theorem o_if_gt {a : Int} {off : Int} {tgt : Nat} (hd : decode M.2.1 pc = .ok (.ifCond .gt off, 3)) (ht : (pc : Int) + off = (tgt : Int)) (ha : o_R a) (k1 : 0 < a → o_V l M d al post tgt ls st n h mc ms) (k2 : ¬ (0 < a) → o_V l M d al post (pc + 3) ls st n h mc ms) : o_V l M d al post pc ls (.int (o_I a) :: st) n h mc ms := by
  intro Z p e R s m args below meth c ad H locs cells slots MC MS la Q X E S P a1 a2 a3 a4 L K
  exact lv_if_gt X.1 X.2.1 hd ht (fun q => k1 ((o_lt o_R0 ha).mp q) Z p e R s m args below meth c ad H locs cells slots MC MS la Q X E S P a1 a2 a3 a4 L K) (fun q => k2 (fun z => q ((o_lt o_R0 ha).mpr z)) Z p e R s m args below meth c ad H locs cells slots MC MS la Q X E S P a1 a2 a3 a4 L K)
theorem o_icmp_le {a b : Int} {off : Int} {tgt : Nat} (hd : decode M.2.1 pc = .ok (.if_icmp .le off, 3)) (ht : (pc : Int) + off = (tgt : Int)) (ha : o_R a) (hb : o_R b) (k1 : a ≤ b → o_V l M d al post tgt ls st n h mc ms) (k2 : ¬ (a ≤ b) → o_V l M d al post (pc + 3) ls st n h mc ms) : o_V l M d al post pc ls (.int (o_I b) :: .int (o_I a) :: st) n h mc ms := by
  intro Z p e R s m args below meth c ad H locs cells slots MC MS la Q X E S P a1 a2 a3 a4 L K
  exact lv_icmp_le X.1 X.2.1 hd ht (fun q => k1 ((o_le ha hb).mp q) Z p e R s m args below meth c ad H locs cells slots MC MS la Q X E S P a1 a2 a3 a4 L K) (fun q => k2 (fun z => q ((o_le ha hb).mpr z)) Z p e R s m args below meth c ad H locs cells slots MC MS la Q X E S P a1 a2 a3 a4 L K)
theorem o_if_le {a : Int} {off : Int} {tgt : Nat} (hd : decode M.2.1 pc = .ok (.ifCond .le off, 3)) (ht : (pc : Int) + off = (tgt : Int)) (ha : o_R a) (k1 : a ≤ 0 → o_V l M d al post tgt ls st n h mc ms) (k2 : ¬ (a ≤ 0) → o_V l M d al post (pc + 3) ls st n h mc ms) : o_V l M d al post pc ls (.int (o_I a) :: st) n h mc ms := by
  intro Z p e R s m args below meth c ad H locs cells slots MC MS la Q X E S P a1 a2 a3 a4 L K
  exact lv_if_le X.1 X.2.1 hd ht (fun q => k1 ((o_le ha o_R0).mp q) Z p e R s m args below meth c ad H locs cells slots MC MS la Q X E S P a1 a2 a3 a4 L K) (fun q => k2 (fun z => q ((o_le ha o_R0).mpr z)) Z p e R s m args below meth c ad H locs cells slots MC MS la Q X E S P a1 a2 a3 a4 L K)
theorem o_ifx_eq {x : Int32} {off : Int} {tgt : Nat} (hd : decode M.2.1 pc = .ok (.ifCond .eq off, 3)) (ht : (pc : Int) + off = (tgt : Int)) (k1 : x = 0 → o_V l M d al post tgt ls st n h mc ms) (k2 : ¬ (x = 0) → o_V l M d al post (pc + 3) ls st n h mc ms) : o_V l M d al post pc ls (.int x :: st) n h mc ms := by
  intro Z p e R s m args below meth c ad H locs cells slots MC MS la Q X E S P a1 a2 a3 a4 L K
  exact lv_if_eq X.1 X.2.1 hd ht (fun q => k1 q Z p e R s m args below meth c ad H locs cells slots MC MS la Q X E S P a1 a2 a3 a4 L K) (fun q => k2 q Z p e R s m args below meth c ad H locs cells slots MC MS la Q X E S P a1 a2 a3 a4 L K)
theorem o_goto {off : Int} {tgt : Nat} (hd : decode M.2.1 pc = .ok (.goto off, 3)) (ht : (pc : Int) + off = (tgt : Int)) (k : o_V l M d al post tgt ls st n h mc ms) : o_V l M d al post pc ls st n h mc ms := by
  intro Z p e R s m args below meth c ad H locs cells slots MC MS la Q X E S P a1 a2 a3 a4 L K
  exact lv_goto X.1 X.2.1 hd ht (k Z p e R s m args below meth c ad H locs cells slots MC MS la Q X E S P a1 a2 a3 a4 L K)
theorem o_ifnonnull {x : Nat} {off : Int} {tgt : Nat} (hd : decode M.2.1 pc = .ok (.ifnonnull off, 3)) (ht : (pc : Int) + off = (tgt : Int)) (k : o_V l M d al post tgt ls st n h mc ms) : o_V l M d al post pc ls (.ref x :: st) n h mc ms := by
  intro Z p e R s m args below meth c ad H locs cells slots MC MS la Q X E S P a1 a2 a3 a4 L K
  exact lv_ifnonnull X.1 X.2.1 hd ht (k Z p e R s m args below meth c ad H locs cells slots MC MS la Q X E S P a1 a2 a3 a4 L K)
theorem o_ifnonnullN {off : Int} (hd : decode M.2.1 pc = .ok (.ifnonnull off, 3)) (k : o_V l M d al post (pc + 3) ls st n h mc ms) : o_V l M d al post pc ls (.null :: st) n h mc ms := by
  intro Z p e R s m args below meth c ad H locs cells slots MC MS la Q X E S P a1 a2 a3 a4 L K
  exact lv_ifnonnullN X.1 X.2.1 hd (k Z p e R s m args below meth c ad H locs cells slots MC MS la Q X E S P a1 a2 a3 a4 L K)
theorem o_ifnull {x : Nat} {off : Int} (hd : decode M.2.1 pc = .ok (.ifnull off, 3)) (k : o_V l M d al post (pc + 3) ls st n h mc ms) : o_V l M d al post pc ls (.ref x :: st) n h mc ms := by
  intro Z p e R s m args below meth c ad H locs cells slots MC MS la Q X E S P a1 a2 a3 a4 L K
  exact lv_ifnull X.1 X.2.1 hd (k Z p e R s m args below meth c ad H locs cells slots MC MS la Q X E S P a1 a2 a3 a4 L K)
theorem o_lookup {dflt : Int} {ps : Array (Int × Int)} {len : Nat} {x : Int32} {off : Int} {tgt : Nat} (hd : decode M.2.1 pc = .ok (.lookupswitch dflt ps, len)) (hp : (ps.toList.zip (ps.toList.drop 1)).all (fun (a, next) => a.1 < next.1) = true) (ho : Op.lookupswitch.offset ps.toList dflt x.toInt = off) (ht : (pc : Int) + off = (tgt : Int)) (k : o_V l M d al post tgt ls st n h mc ms) : o_V l M d al post pc ls (.int x :: st) n h mc ms := by
  intro Z p e R s m args below meth c ad H locs cells slots MC MS la Q X E S P a1 a2 a3 a4 L K
  exact lv_lookup X.1 X.2.1 hd hp ho ht (k Z p e R s m args below meth c ad H locs cells slots MC MS la Q X E S P a1 a2 a3 a4 L K)
theorem o_tableOut {dflt lo hi : Int} {offs : Array Int} {len : Nat} {x : Int32} {tgt : Nat} (hd : decode M.2.1 pc = .ok (.tableswitch dflt lo hi offs, len)) (h9 : x.toInt < lo ∨ hi < x.toInt) (ht : (pc : Int) + dflt = (tgt : Int)) (k : o_V l M d al post tgt ls st n h mc ms) : o_V l M d al post pc ls (.int x :: st) n h mc ms := by
  intro Z p e R s m args below meth c ad H locs cells slots MC MS la Q X E S P a1 a2 a3 a4 L K
  exact lv_tableOut X.1 X.2.1 hd h9 ht (k Z p e R s m args below meth c ad H locs cells slots MC MS la Q X E S P a1 a2 a3 a4 L K)
theorem o_tableIn {dflt lo hi : Int} {offs : Array Int} {len : Nat} {x : Int32} {off : Int} {tgt : Nat} (hd : decode M.2.1 pc = .ok (.tableswitch dflt lo hi offs, len)) (h1 : ¬ x.toInt < lo) (h2 : ¬ hi < x.toInt) (ho : offs[(x.toInt - lo).toNat]? = some off) (ht : (pc : Int) + off = (tgt : Int)) (k : o_V l M d al post tgt ls st n h mc ms) : o_V l M d al post pc ls (.int x :: st) n h mc ms := by
  intro Z p e R s m args below meth c ad H locs cells slots MC MS la Q X E S P a1 a2 a3 a4 L K
  exact lv_tableIn X.1 X.2.1 hd h1 h2 ho ht (k Z p e R s m args below meth c ad H locs cells slots MC MS la Q X E S P a1 a2 a3 a4 L K)
/-- the same variables, in another order, or fewer -/
theorem o_loc (ls' : List (Nat × Value)) (hq : ls'.map (fun q => o_get ls q.1) = ls'.map (fun q => some q.2)) (k : o_V l M d al post pc ls' st n h mc ms) : o_V l M d al post pc ls st n h mc ms := by
  intro Z p e R s m args below meth c ad H locs cells slots MC MS la Q X E S P a1 a2 a3 a4 L K
  refine k Z p e R s m args below meth c ad H locs cells slots MC MS la Q X E S P a1 a2 a3 a4 ⟨L.1, L.2.1, fun q hq' => ?_⟩ K
  obtain ⟨r, hr, rfl⟩ := List.mem_map.mp hq'
  have h9 : o_get ls r.1 = some r.2 := by
    obtain ⟨j, hj⟩ := List.getElem?_of_mem hr
    have := congrArg (fun l => l[j]?) hq
    simpa [hj] using this
  exact o_lat L h9
/-- less room -/
theorem o_mono {mc' ms' : Nat} (h1 : mc' ≤ mc) (h2 : ms' ≤ ms) (k : o_V l M d al post pc ls st n h mc' ms') : o_V l M d al post pc ls st n h mc ms := by
  intro Z p e R s m args below meth c ad H locs cells slots MC MS la Q X E S P a1 a2 a3 a4 L K
  exact k Z p e R s m args below meth c ad H locs cells slots MC MS la Q X E S P (by omega) (by omega) a3 a4 L K
end OR
end
section
/-! the classes' words, types and names -/
def o_clF (q : vw_C) : Prop := (∀ w ∈ u_ws q.1 q.2.1 q.2.2, w ∈ o_gW) ∧ (∃ ty : Nat → FieldType, ∀ k, k < q.2.2 → parseFieldDescriptor (q.2.1 k).2.2.1 = some (ty k)) ∧ ∀ a, a < q.2.2 → ∀ b, b < q.2.2 → a ≠ b → (q.2.1 a).2.1 ≠ (q.2.1 b).2.1
theorem o_clF0 (E : String) : o_clF (E, o_T0, 0) := ⟨fun w hw => by simp [u_ws] at hw, ⟨fun _ => .int, fun k hk => absurd hk (Nat.not_lt_zero k)⟩, fun a ha => absurd ha (Nat.not_lt_zero a)⟩
theorem o_clF_X11 : o_clF (RX11, TX11, 12) := ⟨by decide +kernel, ⟨tyX11, tyX11_ok⟩, nmX11⟩
theorem o_clF_X10 : o_clF (RX10, TX10, 7) := ⟨by decide +kernel, ⟨tyX10, tyX10_ok⟩, nmX10⟩
theorem o_clF_X9 : o_clF (RX9, TX9, 4) := ⟨by decide +kernel, ⟨tyX9, tyX9_ok⟩, nmX9⟩
theorem o_clF_X7 : o_clF (RX7, TX7, 6) := ⟨by decide +kernel, ⟨tyX7, tyX7_ok⟩, nmX7⟩
theorem o_clF_X8 : o_clF (RX8, TX8, 3) := ⟨by decide +kernel, ⟨tyX8, tyX8_ok⟩, nmX8⟩
theorem o_clF_X5 : o_clF (RX5, TX5, 3) := ⟨by decide +kernel, ⟨tyX5, tyX5_ok⟩, nmX5⟩
theorem o_clF_X4 : o_clF (RX4, TX4, 1) := ⟨by decide +kernel, ⟨tyX4, tyX4_ok⟩, nmX4⟩
theorem o_clF_X3 : o_clF (RX3, TX3, 4) := ⟨by decide +kernel, ⟨tyX3, tyX3_ok⟩, nmX3⟩
theorem o_clF_X2 : o_clF (RX2, TX2, 5) := ⟨by decide +kernel, ⟨tyX2, tyX2_ok⟩, nmX2⟩
theorem o_clF_X1 : o_clF (RX1, TX1, 2) := ⟨by decide +kernel, ⟨tyX1, tyX1_ok⟩, nmX1⟩
theorem o_clF_X12 : o_clF (RX12, TX12, 19) := ⟨by decide +kernel, ⟨tyX12, tyX12_ok⟩, nmX12⟩
theorem o_clF_J4 : o_clF (RJ4, TJ4, 4) := ⟨by decide +kernel, ⟨tyJ4, tyJ4_ok⟩, nmJ4⟩
theorem o_clOk : ∀ q ∈ o_cl, o_clF q := List.forall_mem_cons.mpr ⟨o_clF_X11, List.forall_mem_cons.mpr ⟨o_clF_X10, List.forall_mem_cons.mpr ⟨o_clF_X9, List.forall_mem_cons.mpr ⟨o_clF_X7, List.forall_mem_cons.mpr ⟨o_clF_X8, List.forall_mem_cons.mpr ⟨o_clF_X5, List.forall_mem_cons.mpr ⟨o_clF_X4, List.forall_mem_cons.mpr ⟨o_clF_X3, List.forall_mem_cons.mpr ⟨o_clF_X2, List.forall_mem_cons.mpr ⟨o_clF_X1, List.forall_mem_cons.mpr ⟨o_clF_X12, List.forall_mem_cons.mpr ⟨o_clF_J4, List.forall_mem_cons.mpr ⟨o_clF0 _, List.forall_mem_cons.mpr ⟨o_clF0 _, List.forall_mem_cons.mpr ⟨o_clF0 _, List.forall_mem_cons.mpr ⟨o_clF0 _, List.forall_mem_cons.mpr ⟨o_clF0 _, List.forall_mem_cons.mpr ⟨o_clF0 _, fun _ h => absurd h List.not_mem_nil⟩⟩⟩⟩⟩⟩⟩⟩⟩⟩⟩⟩⟩⟩⟩⟩⟩⟩
theorem o_clAt {ci : Nat} {q : vw_C} (h : o_cl[ci]? = some q) : o_clF q := o_clOk q (List.mem_of_getElem? h)
theorem o_Rp.set {Z : o_Z} {ad : Nat → Nat} {n b : Nat} {h h' : Nat → o_C} {H1 : Heap} {c : o_C} {e0 : va_E} (he : e0 = o_rC ad Z.2.2.1 c) (e : o_up h b c = h') (hP : va_P Z.2.1 o_cl ((o_rW ad Z.2.2.1 n h).set b (ad b, e0)) H1) (hD : va_D (o_A Z) ((o_rW ad Z.2.2.1 n h).set b (ad b, e0))) : o_Rp Z ad n h' H1 := by
  rw [o_rW_set he, e] at hP hD
  exact ⟨hP, hD⟩
theorem o_inR {i : Int} {n : Nat} (hn : n ≤ 2147483647) (h0 : 0 ≤ i) (h1 : i < n) : o_R i := ⟨by omega, by omega⟩
theorem o_mx {a b : Int} (ha : o_R a) (hb : o_R b) : (if o_I a < o_I b then o_I b else o_I a) = o_I (max a b) := by
  by_cases q : a < b
  · rw [if_pos ((o_lt ha hb).mpr q)]; congr 1; omega
  · rw [if_neg (fun z => q ((o_lt ha hb).mp z))]; congr 1; omega
theorem o_mn {a b : Int} (ha : o_R a) (hb : o_R b) : (if o_I b < o_I a then o_I b else o_I a) = o_I (min a b) := by
  by_cases q : b < a
  · rw [if_pos ((o_lt hb ha).mpr q)]; congr 1; omega
  · rw [if_neg (fun z => q ((o_lt hb ha).mp z))]; congr 1; omega
/-- functions of integers -/
def o_u (g : Nat → Int) (k : Nat) (z : Int) : Nat → Int := fun j => if j = k then z else g j
theorem o_uI (g : Nat → Int) (k : Nat) (z : Int) : upd (fun j => o_I (g j)) k (o_I z) = fun j => o_I (o_u g k z j) := by
  funext j
  by_cases q : j = k
  · subst q; simp [upd, o_u]
  · simp [upd, o_u, q]
theorem o_cpI (f g : Nat → Int) (sp dp m : Nat) : va_cpy (fun j => o_I (f j)) (fun j => o_I (g j)) sp dp m = fun j => o_I (va_cpy f g sp dp m j) := by
  funext j
  unfold va_cpy
  split <;> rfl
end
section
/-! rows that read and write the heap, and ends -/
section OH
variable {l : Launch} {M : o_M} {d : Nat} {al : Nat → Prop} {post : o_P} {pc : Nat} {ls : List (Nat × Value)} {st : List Value} {n : Nat} {h : Nat → o_C} {mc ms : Nat}
theorem o_getf {b ci k i N : Nat} {fs : List Value} {C : String} {T : u_T} {v : Value} (hd : decode M.2.1 pc = .ok (.getfield i, 3)) (hb : b < n) (hh : h b = .inr (ci, fs)) (hc : o_cl[ci]? = some (C, T, N)) (hk : k < N) (hw : Cond.fieldLink M.1 i (T k).1 (T k).2.1 (T k).2.2.1 ∈ o_gW) (hv : fs[k]? = some v) (k9 : o_V l M d al post (pc + 3) ls (v :: st) n h mc ms) : o_V l M d al post pc ls (.ref b :: st) n h mc ms := by
  intro Z p e R s m args below meth c ad H locs cells slots MC MS la Q X E S P a1 a2 a3 a4 L K
  exact va_get (D := Z.2.1) (cl := o_cl) (tys := o_tys Z) X.1 X.2.1 X.2.2.2.1 (o_clAt hc).1 X.2.2.1 E.2.1 P.1 b (o_rW_get hb hh) hc k hk (X.2.2.2.1 _ hw) (fun _ h9 => h9) (by rw [List.getElem?_map, hv]; rfl) hd (k9 Z p e R s m args below meth c ad H locs cells slots MC MS la Q X E S P a1 a2 a3 a4 L K)
theorem o_putf {b ci k i N : Nat} {fs : List Value} {C : String} {T : u_T} {v : Value} {ty : FieldType} {h' : Nat → o_C} (hd : decode M.2.1 pc = .ok (.putfield i, 3)) (hb : b < n) (hh : h b = .inr (ci, fs)) (hc : o_cl[ci]? = some (C, T, N)) (hk : k < N) (hw : Cond.fieldLink M.1 i (T k).1 (T k).2.1 (T k).2.2.1 ∈ o_gW) (hfin : (T k).2.2.2 = false) (hty : parseFieldDescriptor (T k).2.2.1 = some ty) (hl : k < fs.length) (hn : ∀ ad, narrow ty (o_rV ad v) = o_rV ad v) (hf : ∀ ad, fits ty (o_rV ad v) = true) (e9 : o_up h b (.inr (ci, fs.set k v)) = h') (k9 : o_V l M d al post (pc + 3) ls st n h' mc ms) : o_V l M d al post pc ls (v :: .ref b :: st) n h mc ms := by
  intro Z p e R s m args below meth c ad H locs cells slots MC MS la Q X E S P a1 a2 a3 a4 L K
  obtain ⟨hcw, ⟨ty0, hty0⟩, hnm⟩ := o_clAt hc
  refine va_put (D := Z.2.1) (cl := o_cl) (tys := o_tys Z) X.1 X.2.1 X.2.2.2.1 hcw ty0 hty0 hnm X.2.2.1 E.2.1 P.1 P.2 S b (o_rW_get hb hh) hc k hk (X.2.2.2.1 _ hw) (fun _ h9 => h9) hfin hty (hn ad) (hf ad) (by rw [List.length_map]; exact hl) hd (fun H1 locs1 hP hD hS => ?_)
  exact k9 Z p e R s m args below meth c ad H1 locs1 cells slots MC MS la Q X E hS (o_Rp.set (by rw [← List.map_set]; rfl) e9 hP hD) a1 a2 a3 a4 L K
theorem o_iald {b len : Nat} {g : Nat → Int} {i : Int} (hd : decode M.2.1 pc = .ok (.iaload, 1)) (hb : b < n) (hh : h b = .inl (0, len, .inl (fun j => o_I (g j)))) (hle : len ≤ 2147483647) (h0 : 0 ≤ i) (h1 : i < len) (k9 : o_V l M d al post (pc + 1) ls (.int (o_I (g i.toNat)) :: st) n h mc ms) : o_V l M d al post pc ls (.int (o_I i) :: .ref b :: st) n h mc ms := by
  intro Z p e R s m args below meth c ad H locs cells slots MC MS la Q X E S P a1 a2 a3 a4 L K
  have k8 := k9 Z p e R s m args below meth c ad H locs cells slots MC MS la Q X E S P a1 a2 a3 a4 L K
  rw [← o_clamp (o_inR hle h0 h1)] at k8
  exact va_iald (D := Z.2.1) (cl := o_cl) (tys := o_tys Z) X.1 X.2.1 E.2.1 P.1 b 0 (o_rW_get hb hh) (o_tys_get rfl) (o_in (o_inR hle h0 h1) h0 h1) hd k8
theorem o_iast {b len : Nat} {g : Nat → Int} {i z : Int} {h' : Nat → o_C} (hd : decode M.2.1 pc = .ok (.iastore, 1)) (hb : b < n) (hh : h b = .inl (0, len, .inl (fun j => o_I (g j)))) (hle : len ≤ 2147483647) (h0 : 0 ≤ i) (h1 : i < len) (e9 : o_up h b (.inl (0, len, .inl (fun j => o_I (o_u g i.toNat z j)))) = h') (k9 : o_V l M d al post (pc + 1) ls st n h' mc ms) : o_V l M d al post pc ls (.int (o_I z) :: .int (o_I i) :: .ref b :: st) n h mc ms := by
  intro Z p e R s m args below meth c ad H locs cells slots MC MS la Q X E S P a1 a2 a3 a4 L K
  refine va_iast (D := Z.2.1) (cl := o_cl) (tys := o_tys Z) X.1 X.2.1 E.2.1 P.1 P.2 S b 0 (o_rW_get hb hh) (o_tys_get rfl) (o_in (o_inR hle h0 h1) h0 h1) hd (fun H1 locs1 hP hD hS => ?_)
  exact k9 Z p e R s m args below meth c ad H1 locs1 cells slots MC MS la Q X E hS (o_Rp.set (by rw [o_clamp (o_inR hle h0 h1), o_uI]; rfl) e9 hP hD) a1 a2 a3 a4 L K
theorem o_zald {b len : Nat} {g : Nat → Int} {i : Int} (hd : decode M.2.1 pc = .ok (.baload, 1)) (hb : b < n) (hh : h b = .inl (1, len, .inl (fun j => o_I (g j)))) (hle : len ≤ 2147483647) (h0 : 0 ≤ i) (h1 : i < len) (k9 : o_V l M d al post (pc + 1) ls (.int (o_I (g i.toNat)) :: st) n h mc ms) : o_V l M d al post pc ls (.int (o_I i) :: .ref b :: st) n h mc ms := by
  intro Z p e R s m args below meth c ad H locs cells slots MC MS la Q X E S P a1 a2 a3 a4 L K
  have k8 := k9 Z p e R s m args below meth c ad H locs cells slots MC MS la Q X E S P a1 a2 a3 a4 L K
  rw [← o_clamp (o_inR hle h0 h1)] at k8
  exact va_zald (D := Z.2.1) (cl := o_cl) (tys := o_tys Z) X.1 X.2.1 E.2.1 P.1 b 1 (o_rW_get hb hh) (o_tys_get rfl) (o_in (o_inR hle h0 h1) h0 h1) hd k8
theorem o_zast {b len : Nat} {g : Nat → Int} {i z : Int} {h' : Nat → o_C} (hd : decode M.2.1 pc = .ok (.bastore, 1)) (hb : b < n) (hh : h b = .inl (1, len, .inl (fun j => o_I (g j)))) (hle : len ≤ 2147483647) (h0 : 0 ≤ i) (h1 : i < len) (hn : vp_nar .boolean (o_I z) = o_I z) (e9 : o_up h b (.inl (1, len, .inl (fun j => o_I (o_u g i.toNat z j)))) = h') (k9 : o_V l M d al post (pc + 1) ls st n h' mc ms) : o_V l M d al post pc ls (.int (o_I z) :: .int (o_I i) :: .ref b :: st) n h mc ms := by
  intro Z p e R s m args below meth c ad H locs cells slots MC MS la Q X E S P a1 a2 a3 a4 L K
  refine va_zast (D := Z.2.1) (cl := o_cl) (tys := o_tys Z) X.1 X.2.1 E.2.1 P.1 P.2 S b 1 (o_rW_get hb hh) (o_tys_get rfl) (o_in (o_inR hle h0 h1) h0 h1) hd (fun H1 locs1 hP hD hS => ?_)
  exact k9 Z p e R s m args below meth c ad H1 locs1 cells slots MC MS la Q X E hS (o_Rp.set (by rw [hn, o_clamp (o_inR hle h0 h1), o_uI]; rfl) e9 hP hD) a1 a2 a3 a4 L K
theorem o_cald {b len : Nat} {g : Nat → Int} {i : Int} (hd : decode M.2.1 pc = .ok (.caload, 1)) (hb : b < n) (hh : h b = .inl (2, len, .inl (fun j => o_I (g j)))) (hle : len ≤ 2147483647) (h0 : 0 ≤ i) (h1 : i < len) (k9 : o_V l M d al post (pc + 1) ls (.int (o_I (g i.toNat)) :: st) n h mc ms) : o_V l M d al post pc ls (.int (o_I i) :: .ref b :: st) n h mc ms := by
  intro Z p e R s m args below meth c ad H locs cells slots MC MS la Q X E S P a1 a2 a3 a4 L K
  have k8 := k9 Z p e R s m args below meth c ad H locs cells slots MC MS la Q X E S P a1 a2 a3 a4 L K
  rw [← o_clamp (o_inR hle h0 h1)] at k8
  exact va_cald (D := Z.2.1) (cl := o_cl) (tys := o_tys Z) X.1 X.2.1 E.2.1 P.1 b 2 (o_rW_get hb hh) (o_tys_get rfl) (o_in (o_inR hle h0 h1) h0 h1) hd k8
theorem o_cast {b len : Nat} {g : Nat → Int} {i z : Int} {h' : Nat → o_C} (hd : decode M.2.1 pc = .ok (.castore, 1)) (hb : b < n) (hh : h b = .inl (2, len, .inl (fun j => o_I (g j)))) (hle : len ≤ 2147483647) (h0 : 0 ≤ i) (h1 : i < len) (hn : vp_nar .char (o_I z) = o_I z) (e9 : o_up h b (.inl (2, len, .inl (fun j => o_I (o_u g i.toNat z j)))) = h') (k9 : o_V l M d al post (pc + 1) ls st n h' mc ms) : o_V l M d al post pc ls (.int (o_I z) :: .int (o_I i) :: .ref b :: st) n h mc ms := by
  intro Z p e R s m args below meth c ad H locs cells slots MC MS la Q X E S P a1 a2 a3 a4 L K
  refine va_cast (D := Z.2.1) (cl := o_cl) (tys := o_tys Z) X.1 X.2.1 E.2.1 P.1 P.2 S b 2 (o_rW_get hb hh) (o_tys_get rfl) (o_in (o_inR hle h0 h1) h0 h1) hd (fun H1 locs1 hP hD hS => ?_)
  exact k9 Z p e R s m args below meth c ad H1 locs1 cells slots MC MS la Q X E hS (o_Rp.set (by rw [hn, o_clamp (o_inR hle h0 h1), o_uI]; rfl) e9 hP hD) a1 a2 a3 a4 L K
theorem o_bald {b len : Nat} {g : Nat → Int} {i : Int} (hd : decode M.2.1 pc = .ok (.baload, 1)) (hb : b < n) (hh : h b = .inl (3, len, .inl (fun j => o_I (g j)))) (hle : len ≤ 2147483647) (h0 : 0 ≤ i) (h1 : i < len) (k9 : o_V l M d al post (pc + 1) ls (.int (o_I (g i.toNat)) :: st) n h mc ms) : o_V l M d al post pc ls (.int (o_I i) :: .ref b :: st) n h mc ms := by
  intro Z p e R s m args below meth c ad H locs cells slots MC MS la Q X E S P a1 a2 a3 a4 L K
  have k8 := k9 Z p e R s m args below meth c ad H locs cells slots MC MS la Q X E S P a1 a2 a3 a4 L K
  rw [← o_clamp (o_inR hle h0 h1)] at k8
  exact va_bald (D := Z.2.1) (cl := o_cl) (tys := o_tys Z) X.1 X.2.1 E.2.1 P.1 b 3 (o_rW_get hb hh) (o_tys_get rfl) (o_in (o_inR hle h0 h1) h0 h1) hd k8
theorem o_bast {b len : Nat} {g : Nat → Int} {i z : Int} {h' : Nat → o_C} (hd : decode M.2.1 pc = .ok (.bastore, 1)) (hb : b < n) (hh : h b = .inl (3, len, .inl (fun j => o_I (g j)))) (hle : len ≤ 2147483647) (h0 : 0 ≤ i) (h1 : i < len) (hn : vp_nar .byte (o_I z) = o_I z) (e9 : o_up h b (.inl (3, len, .inl (fun j => o_I (o_u g i.toNat z j)))) = h') (k9 : o_V l M d al post (pc + 1) ls st n h' mc ms) : o_V l M d al post pc ls (.int (o_I z) :: .int (o_I i) :: .ref b :: st) n h mc ms := by
  intro Z p e R s m args below meth c ad H locs cells slots MC MS la Q X E S P a1 a2 a3 a4 L K
  refine va_bast (D := Z.2.1) (cl := o_cl) (tys := o_tys Z) X.1 X.2.1 E.2.1 P.1 P.2 S b 3 (o_rW_get hb hh) (o_tys_get rfl) (o_in (o_inR hle h0 h1) h0 h1) hd (fun H1 locs1 hP hD hS => ?_)
  exact k9 Z p e R s m args below meth c ad H1 locs1 cells slots MC MS la Q X E hS (o_Rp.set (by rw [hn, o_clamp (o_inR hle h0 h1), o_uI]; rfl) e9 hP hD) a1 a2 a3 a4 L K
theorem o_lald {b len : Nat} {f : Nat → Int64} {i : Int} (hd : decode M.2.1 pc = .ok (.laload, 1)) (hb : b < n) (hh : h b = .inl (4, len, .inr (.inl f))) (hle : len ≤ 2147483647) (h0 : 0 ≤ i) (h1 : i < len) (k9 : o_V l M d al post (pc + 1) ls (.long (f i.toNat) :: st) n h mc ms) : o_V l M d al post pc ls (.int (o_I i) :: .ref b :: st) n h mc ms := by
  intro Z p e R s m args below meth c ad H locs cells slots MC MS la Q X E S P a1 a2 a3 a4 L K
  have k8 := k9 Z p e R s m args below meth c ad H locs cells slots MC MS la Q X E S P a1 a2 a3 a4 L K
  rw [← o_clamp (o_inR hle h0 h1)] at k8
  exact va_lald (D := Z.2.1) (cl := o_cl) (tys := o_tys Z) X.1 X.2.1 E.2.1 P.1 b 4 (o_rW_get hb hh) (o_tys_get rfl) (o_in (o_inR hle h0 h1) h0 h1) hd k8
theorem o_last {b len : Nat} {f : Nat → Int64} {i : Int} {z : Int64} {h' : Nat → o_C} (hd : decode M.2.1 pc = .ok (.lastore, 1)) (hb : b < n) (hh : h b = .inl (4, len, .inr (.inl f))) (hle : len ≤ 2147483647) (h0 : 0 ≤ i) (h1 : i < len) (e9 : o_up h b (.inl (4, len, .inr (.inl (vp_updL f i.toNat z)))) = h') (k9 : o_V l M d al post (pc + 1) ls st n h' mc ms) : o_V l M d al post pc ls (.long z :: .int (o_I i) :: .ref b :: st) n h mc ms := by
  intro Z p e R s m args below meth c ad H locs cells slots MC MS la Q X E S P a1 a2 a3 a4 L K
  refine va_last (D := Z.2.1) (cl := o_cl) (tys := o_tys Z) X.1 X.2.1 E.2.1 P.1 P.2 S b 4 (o_rW_get hb hh) (o_tys_get rfl) (o_in (o_inR hle h0 h1) h0 h1) hd (fun H1 locs1 hP hD hS => ?_)
  exact k9 Z p e R s m args below meth c ad H1 locs1 cells slots MC MS la Q X E hS (o_Rp.set (by rw [o_clamp (o_inR hle h0 h1)]; rfl) e9 hP hD) a1 a2 a3 a4 L K
theorem o_dald {b len : Nat} {f : Nat → UInt64} {i : Int} (hd : decode M.2.1 pc = .ok (.daload, 1)) (hb : b < n) (hh : h b = .inl (5, len, .inr (.inr (.inr (.inl f))))) (hle : len ≤ 2147483647) (h0 : 0 ≤ i) (h1 : i < len) (k9 : o_V l M d al post (pc + 1) ls (.double (f i.toNat) :: st) n h mc ms) : o_V l M d al post pc ls (.int (o_I i) :: .ref b :: st) n h mc ms := by
  intro Z p e R s m args below meth c ad H locs cells slots MC MS la Q X E S P a1 a2 a3 a4 L K
  have k8 := k9 Z p e R s m args below meth c ad H locs cells slots MC MS la Q X E S P a1 a2 a3 a4 L K
  rw [← o_clamp (o_inR hle h0 h1)] at k8
  exact va_dald (D := Z.2.1) (cl := o_cl) (tys := o_tys Z) X.1 X.2.1 E.2.1 P.1 b 5 (o_rW_get hb hh) (o_tys_get rfl) (o_in (o_inR hle h0 h1) h0 h1) hd k8
theorem o_dast {b len : Nat} {f : Nat → UInt64} {i : Int} {z : UInt64} {h' : Nat → o_C} (hd : decode M.2.1 pc = .ok (.dastore, 1)) (hb : b < n) (hh : h b = .inl (5, len, .inr (.inr (.inr (.inl f))))) (hle : len ≤ 2147483647) (h0 : 0 ≤ i) (h1 : i < len) (e9 : o_up h b (.inl (5, len, .inr (.inr (.inr (.inl (vf_upd f i.toNat z)))))) = h') (k9 : o_V l M d al post (pc + 1) ls st n h' mc ms) : o_V l M d al post pc ls (.double z :: .int (o_I i) :: .ref b :: st) n h mc ms := by
  intro Z p e R s m args below meth c ad H locs cells slots MC MS la Q X E S P a1 a2 a3 a4 L K
  refine va_dast (D := Z.2.1) (cl := o_cl) (tys := o_tys Z) X.1 X.2.1 E.2.1 P.1 P.2 S b 5 (o_rW_get hb hh) (o_tys_get rfl) (o_in (o_inR hle h0 h1) h0 h1) hd (fun H1 locs1 hP hD hS => ?_)
  exact k9 Z p e R s m args below meth c ad H1 locs1 cells slots MC MS la Q X E hS (o_Rp.set (by rw [o_clamp (o_inR hle h0 h1)]; rfl) e9 hP hD) a1 a2 a3 a4 L K
theorem o_aald {b len t r : Nat} {C : String} {f : Nat → Option Nat} {i : Int} (hd : decode M.2.1 pc = .ok (.aaload, 1)) (hb : b < n) (hh : h b = .inl (t, len, .inr (.inr (.inr (.inr f))))) (ht : o_tyL[t]? = some (.object C)) (hle : len ≤ 2147483647) (h0 : 0 ≤ i) (h1 : i < len) (hr : f i.toNat = some r) (k9 : o_V l M d al post (pc + 1) ls (.ref r :: st) n h mc ms) : o_V l M d al post pc ls (.int (o_I i) :: .ref b :: st) n h mc ms := by
  intro Z p e R s m args below meth c ad H locs cells slots MC MS la Q X E S P a1 a2 a3 a4 L K
  have k8 : W p l e R s m args below meth c H locs cells slots Q (F0 m (pc + 1) la (va_rf ((f (o_I i).toNatClampNeg).map ad) :: st.map (o_rV ad))) := by
    rw [o_clamp (o_inR hle h0 h1), hr]
    exact k9 Z p e R s m args below meth c ad H locs cells slots MC MS la Q X E S P a1 a2 a3 a4 L K
  exact va_aldq (D := Z.2.1) (cl := o_cl) (tys := o_tys Z) (f := fun j => (f j).map ad) X.1 X.2.1 E.2.1 P.1 b t (o_rW_get hb hh) (o_tys_get ht) (o_in (o_inR hle h0 h1) h0 h1) hd k8
theorem o_alen {b t : Nat} {x : vp_A} {ty : FieldType} (hd : decode M.2.1 pc = .ok (.arraylength, 1)) (hb : b < n) (hh : h b = .inl (t, x)) (ht : o_tyL[t]? = some ty) (k9 : o_V l M d al post (pc + 1) ls (.int (o_I x.1) :: st) n h mc ms) : o_V l M d al post pc ls (.ref b :: st) n h mc ms := by
  intro Z p e R s m args below meth c ad H locs cells slots MC MS la Q X E S P a1 a2 a3 a4 L K
  exact va_alen (D := Z.2.1) (cl := o_cl) (tys := o_tys Z) X.1 X.2.1 E.2.1 P.1 b t (o_rW_get hb hh) (o_tys_get ht) (v := o_I x.1) (o_nI x.1) hd (k9 Z p e R s m args below meth c ad H locs cells slots MC MS la Q X E S P a1 a2 a3 a4 L K)
theorem o_copyi {index a0 b len0 len1 : Nat} {f g : Nat → Int} {sp dp m0 : Int} {h' : Nat → o_C} (hd : decode M.2.1 pc = .ok (.invokestatic index, 3)) (hw : Cond.methodLink M.1 index arraycopyName ∈ o_gW) (hw1 : Cond.native arraycopyName ∈ o_gW) (hw2 : Cond.static arraycopyName ∈ o_gW) (hw3 : Cond.initialized "java/lang/System" ∈ o_gW) (ha0 : a0 < n) (hb : b < n) (hh0 : h a0 = .inl (0, len0, .inl (fun j => o_I (f j)))) (hh : h b = .inl (0, len1, .inl (fun j => o_I (g j)))) (hl0 : len0 ≤ 2147483647) (hl1 : len1 ≤ 2147483647) (h0 : 0 ≤ sp) (h1 : 0 ≤ dp) (h2 : 0 ≤ m0) (h3 : sp + m0 ≤ len0) (h4 : dp + m0 ≤ len1) (hcat : (st.map fun v => v.category).sum ≤ 20) (e9 : o_up h b (.inl (0, len1, .inl (fun j => o_I (va_cpy f g sp.toNat dp.toNat m0.toNat j)))) = h') (k9 : o_V l M d al post (pc + 3) ls st n h' mc ms) : o_V l M d al post pc ls (.int (o_I m0) :: .int (o_I dp) :: .ref b :: .int (o_I sp) :: .ref a0 :: st) n h mc ms := by
  intro Z p e R s m args below meth c ad H locs cells slots MC MS la Q X E S P a1 a2 a3 a4 L K
  have r1 : o_R sp := ⟨by omega, by omega⟩
  have r2 : o_R dp := ⟨by omega, by omega⟩
  have r3 : o_R m0 := ⟨by omega, by omega⟩
  have b1 : (o_I sp).toNatClampNeg + (o_I m0).toNatClampNeg ≤ len0 := by rw [o_clamp r1, o_clamp r3]; omega
  have b2 : (o_I dp).toNatClampNeg + (o_I m0).toNatClampNeg ≤ len1 := by rw [o_clamp r2, o_clamp r3]; omega
  have b3 : 1 ≤ R.frames := by have := X.2.2.2.2.2.2.2.2.2.1; omega
  have b5 : nativeFrameWords "java/lang/System" "arraycopy" 5 ≤ 60 := by decide +kernel
  have b4 : ((st.map (o_rV ad)).map fun v => v.category).sum + (nativeFrameWords "java/lang/System" "arraycopy" 5 + 11) ≤ R.locals := by
    have := X.2.2.2.2.2.2.2.2.2.2
    rw [o_cats]
    omega
  refine va_copyi (D := Z.2.1) (cl := o_cl) (tys := o_tys Z) X.1 X.2.1 (X.2.2.2.2.1.trans L.1.symm) X.2.2.1 (X.2.2.2.1 _ hw) (X.2.2.2.1 _ hw1) (X.2.2.2.1 _ hw2) (X.2.2.2.1 _ hw3) E.2.1 P.1 P.2 S a0 b 0 0 (o_rW_get ha0 hh0) (o_rW_get hb hh) (o_tys_get rfl) (o_tys_get rfl) rfl (fun q => by have := (o_lt r1 o_R0).mp q; omega) (fun q => by have := (o_lt r2 o_R0).mp q; omega) (fun q => by have := (o_lt r3 o_R0).mp q; omega) b1 b2 (fun _ _ => rfl) b3 b4 hd (fun H1 locs1 hP hD hS => ?_)
  exact k9 Z p e R s m args below meth c ad H1 locs1 cells slots MC MS la Q X E hS (o_Rp.set (by rw [o_clamp r1, o_clamp r2, o_clamp r3, o_cpI]; rfl) e9 hP hD) a1 a2 a3 a4 L K
theorem o_mmax {index : Nat} {a b : Int} (hd : decode M.2.1 pc = .ok (.invokestatic index, 3)) (hw : Cond.methodLink M.1 index Lib.Math.max.name ∈ o_gW) (hw1 : Cond.static Lib.Math.max.name ∈ o_gW) (hw2 : Cond.initialized "java/lang/Math" ∈ o_gW) (hw3 : Cond.code Lib.Math.max.name Lib.Math.max.code 2 (some .int) ∈ o_gW) (ha : o_R a) (hb : o_R b) (hcat : (st.map fun v => v.category).sum ≤ 20) (k9 : o_V l M d al post (pc + 3) ls (.int (o_I (max a b)) :: st) n h mc ms) : o_V l M d al post pc ls (.int (o_I b) :: .int (o_I a) :: st) n h mc ms := by
  intro Z p e R s m args below meth c ad H locs cells slots MC MS la Q X E S P a1 a2 a3 a4 L K
  have k8 := k9 Z p e R s m args below meth c ad H locs cells slots MC MS la Q X E S P a1 a2 a3 a4 L K
  rw [← o_mx ha hb] at k8
  exact va_mmax X.1 X.2.1 (X.2.2.2.2.1.trans L.1.symm) X.2.2.1 (X.2.2.2.1 _ hw) (X.2.2.2.1 _ hw1) (X.2.2.2.1 _ hw2) (X.2.2.2.1 _ hw3) (by have := X.2.2.2.2.2.2.2.2.2.1; omega) (by have := X.2.2.2.2.2.2.2.2.2.2; rw [o_cats]; omega) (by omega) (by omega) hd k8
theorem o_mmin {index : Nat} {a b : Int} (hd : decode M.2.1 pc = .ok (.invokestatic index, 3)) (hw : Cond.methodLink M.1 index Lib.Math.min.name ∈ o_gW) (hw1 : Cond.static Lib.Math.min.name ∈ o_gW) (hw2 : Cond.initialized "java/lang/Math" ∈ o_gW) (hw3 : Cond.code Lib.Math.min.name Lib.Math.min.code 2 (some .int) ∈ o_gW) (ha : o_R a) (hb : o_R b) (hcat : (st.map fun v => v.category).sum ≤ 20) (k9 : o_V l M d al post (pc + 3) ls (.int (o_I (min a b)) :: st) n h mc ms) : o_V l M d al post pc ls (.int (o_I b) :: .int (o_I a) :: st) n h mc ms := by
  intro Z p e R s m args below meth c ad H locs cells slots MC MS la Q X E S P a1 a2 a3 a4 L K
  have k8 := k9 Z p e R s m args below meth c ad H locs cells slots MC MS la Q X E S P a1 a2 a3 a4 L K
  rw [← o_mn ha hb] at k8
  exact va_mmin X.1 X.2.1 (X.2.2.2.2.1.trans L.1.symm) X.2.2.1 (X.2.2.2.1 _ hw) (X.2.2.2.1 _ hw1) (X.2.2.2.1 _ hw2) (X.2.2.2.1 _ hw3) (by have := X.2.2.2.2.2.2.2.2.2.1; omega) (by have := X.2.2.2.2.2.2.2.2.2.2; rw [o_cats]; omega) (by omega) (by omega) hd k8
theorem o_ret (v : Option Value) (hd : decode M.2.1 pc = .ok (o_ri M.2.2.2.1, 1)) (hk : o_rok M.2.2.2.1 v) (hp : post (.inl v) n h) : o_V l M d al post pc ls v.toList n h mc ms := by
  intro Z p e R s m args below meth c ad H locs cells slots MC MS la Q X E S P a1 a2 a3 a4 L K
  exact K.1 v n h ad H locs cells slots pc la hp o_ag.rf P S (by omega) (by omega) hd hk
theorem o_ret1 {v : Value} (hd : decode M.2.1 pc = .ok (o_ri M.2.2.2.1, 1)) (hk : o_rok M.2.2.2.1 (some v)) (hp : post (.inl (some v)) n h) : o_V l M d al post pc ls [v] n h mc ms := o_ret (some v) hd hk hp
theorem o_ret0 (hd : decode M.2.1 pc = .ok (o_ri M.2.2.2.1, 1)) (hk : o_rok M.2.2.2.1 none) (hp : post (.inl none) n h) : o_V l M d al post pc ls [] n h mc ms := o_ret none hd hk hp
end OH
end
section
/-! contracts, calls, throws -/
def o_rm (d mc ms : Nat) : Room := { frames := d + 8, cells := mc, slots := ms, locals := 40 * d + 160 }
def o_Pc (Z : o_Z) (ad : Nat → Nat) (av : List Value) (n : Nat) (h : Nat → o_C) : Array Value → State → Prop := va_Pc (av.map (o_rV ad)) (fun U => o_Ex Z ad U ∧ o_Rp Z ad n h U.heap)
def o_Qc (Z : o_Z) (ad : Nat → Nat) (al : Nat → Prop) (post : o_P) : Array Value → State → Outcome → State → Prop := fun _ st oc t =>
  (∃ (v : Option Value) (n' : Nat) (h' : Nat → o_C) (ad' : Nat → Nat), oc = .returned (v.map (o_rV ad')) ∧ post (.inl v) n' h' ∧ o_ag al ad ad' ∧ o_Rp Z ad' n' h' t.heap) ∧ va_F (o_A Z) st t
def o_XC (Z : o_Z) (ad : Nat → Nat) (al : Nat → Prop) (post : o_P) : String → State → State → Prop := fun E st t =>
  (∃ (n' : Nat) (h' : Nat → o_C) (ad' : Nat → Nat), post (.inr E) n' h' ∧ o_ag al ad ad' ∧ o_Rp Z ad' n' h' t.heap) ∧ va_F (o_A Z) st t
/-- the contract: called with av in the heap h, y ends as post says, with at most mc new cells of ms slots; d: how deep it calls -/
def o_Ct (l : Launch) (y : MethodName) (cw : Cond) (d : Nat) (al : Nat → Prop) (av : List Value) (n : Nat) (h : Nat → o_C) (mc ms : Nat) (post : o_P) : Prop :=
  ∀ (Z : o_Z) (ad : Nat → Nat), vx_Met l y (cw :: o_gW) (o_rm d mc ms) (o_Pc Z ad av n h) (o_Qc Z ad al post) (o_XC Z ad al post) mc ms (o_A Z)
theorem o_Pc.blind {Z : o_Z} {ad : Nat → Nat} {av : List Value} {n : Nat} {h : Nat → o_C} : FrameBlind (o_Pc Z ad av n h) := fun a U g mk q => ⟨q.1, q.2.1.vm (U := U.calling g mk a) rfl rfl, q.2.2⟩
theorem o_args (ad : Nat → Nat) (av : List Value) : ∀ i : Nat, lv_args i (av.map (o_rV ad)) = (lv_args i av).map (fun q => (q.1, o_rV ad q.2)) := by
  induction av with
  | nil => intro i; rfl
  | cons v av ih =>
    intro i
    simp only [List.map_cons, lv_args, o_cat, ih]
theorem o_argl (ad : Nat → Nat) (av : List Value) : (lg_sl (av.map (o_rV ad))).length = (lg_sl av).length := by
  induction av with
  | nil => rfl
  | cons v av ih =>
    simp only [lg_sl, List.map_cons, List.flatMap_cons, List.length_append, o_cat] at ih ⊢
    rw [ih]
    split <;> rfl
theorem o_Kof {l : Launch} {M : o_M} {Z : o_Z} {p : Program} {e : Env} {R : Room} {s : State} {m : MethodId} {args : Array Value} {below : List Frame} {meth : Method} {c : Code} {ad : Nat → Nat} {mc ms : Nat} {al : Nat → Prop} {post : o_P}
    (hx : p.tables.exec = Jvm.exec) (hb : c.code = M.2.1) (hr : meth.sig.returnType = M.2.2.2.1) (hlocks : meth.locks = false) (ht : c.exceptionTable.toList = tableOf M.2.2.2.2) :
    o_K l M Z p e R s m args below meth c ad mc ms (vx_MQ below (o_Qc Z ad al post) (o_XC Z ad al post) args s mc ms (o_A Z)) al post := by
  refine ⟨fun v n h ad' H locs cells slots pc la hp hag hR hS hc hs hd hk => ?_, fun E q ce n h ad' H locs cells slots pc la rest hp hag hR hS hc hs hM hce hcv hcl => ?_⟩
  · refine vx_ret (W.widen hc hs ?_)
    have hq : ∀ (w : Option Value), w = v.map (o_rV ad') → ∀ t : State, t.heap = H → s.WarmedH t.vm → o_Qc Z ad al post args s (.returned w) t := fun w hw t ht9 hW => ⟨⟨v, n, h, ad', by rw [hw], hp, hag, by rw [ht9]; exact hR⟩, hS.F ht9⟩
    cases hret : M.2.2.2.1 with
    | none =>
      rw [hret] at hk hd hr
      cases v with
      | some v => exact hk.elim
      | none => exact W.vret hx hb hr (hq none rfl) hS.2.2 hd hlocks
    | some ty =>
      rw [hret] at hk hd hr
      cases v with
      | none => cases ty <;> exact hk.elim
      | some v =>
        cases ty with
        | int => cases v <;> first | exact hk.elim | exact W.iret hx hb hr (hq _ rfl) hS.2.2 hd hlocks
        | boolean => cases v <;> first | exact hk.elim | exact W.zret hx hb hr hk (hq _ rfl) hS.2.2 hd hlocks
        | char => cases v <;> first | exact hk.elim | exact W.zret hx hb hr hk (hq _ rfl) hS.2.2 hd hlocks
        | byte => cases v <;> first | exact hk.elim | exact W.zret hx hb hr hk (hq _ rfl) hS.2.2 hd hlocks
        | short => cases v <;> exact hk.elim
        | long => cases v <;> first | exact hk.elim | exact W.lret hx hb hr (hq _ rfl) hS.2.2 hd hlocks
        | float => cases v <;> first | exact hk.elim | exact W.fret hx hb hr (hq _ rfl) hS.2.2 hd hlocks
        | double => cases v <;> first | exact hk.elim | exact W.dret hx hb hr (hq _ rfl) hS.2.2 hd hlocks
        | object nm =>
          have hv : o_rV ad' v = .null ∨ ∃ a, o_rV ad' v = .ref a := by
            rcases hk with rfl | ⟨a, rfl⟩
            · exact Or.inl rfl
            · exact Or.inr ⟨_, rfl⟩
          exact W.aret hx hb hr (Or.inl ⟨_, rfl⟩) hv (hq _ rfl) hS.2.2 hd hlocks
        | array t9 =>
          have hv : o_rV ad' v = .null ∨ ∃ a, o_rV ad' v = .ref a := by
            rcases hk with rfl | ⟨a, rfl⟩
            · exact Or.inl rfl
            · exact Or.inr ⟨_, rfl⟩
          exact W.aret hx hb hr (Or.inr ⟨_, rfl⟩) hv (hq _ rfl) hS.2.2 hd hlocks
  · refine vx_out (E := E) (ce := ce) (fun x hx9 => ?_) hlocks hce hcv hcl (fun t ht9 hW => ⟨⟨n, h, ad', hp, hag, by rw [ht9]; exact hR⟩, hS.F ht9⟩) hS.2.2 hc hs
    rw [ht, hM] at hx9
    exact absurd hx9 List.not_mem_nil
/-- a method's contract out of a walk of its body -/
theorem o_Ct.ofV {l : Launch} (hl : l.stackTraces = false) {y : MethodName} (M : o_M) {d mc ms n : Nat} {al : Nat → Prop} {av : List Value} {h : Nat → o_C} {post : o_P} (hy : plainName y.cls = true) (hM : M.1 = y.cls) (hT : M.2.2.2.2 = []) (hn : (lg_sl av).length ≤ M.2.2.1)
    (k : o_V l M d al post 0 (lv_args 0 av) [] n h mc ms) : o_Ct l y (.code y M.2.1 M.2.2.1 M.2.2.2.1) d al av n h mc ms post := by
  intro Z ad
  refine vx_ofW (cc := M.2.1) (maxL := M.2.2.1) (ret := M.2.2.2.1) hy rfl ?_
  intro p e s m args below meth c s₁ B hml ht hv
  obtain ⟨rfl, hE, hR⟩ := hv
  have htab : c.exceptionTable.toList = tableOf M.2.2.2.2 := by
    rw [hT]
    exact List.eq_nil_iff_forall_not_mem.mpr ht
  have hts := atoms_spec (ws := Cond.code y M.2.1 M.2.2.1 M.2.2.2.1 :: o_gW) B.pre
  have hl0 := lv_entry (av.map (o_rV ad)) (n := M.2.2.1) (by rw [o_argl]; exact hn)
  rw [lg_entry_eq]
  rw [o_args] at hl0
  exact k Z p e _ s m _ below meth c ad s.heap [] 0 0 mc ms _ _ ⟨B.exec, B.bytes, by rw [hM]; exact findClass_of_methodNamed B.named, fun w hw => hts w (List.mem_cons_of_mem _ hw), hml, B.returns, B.notSynchronized, htab, hl, Nat.le_refl _, Nat.le_refl _⟩ hE va_S.rf hR (by omega) (by omega) (Nat.le_refl _) (Nat.le_refl _) hl0
    (o_Kof (l := l) B.exec B.bytes B.returns B.notSynchronized htab)
/-- .. of one with handlers -/
theorem o_Ct.ofVH {l : Launch} (hl : l.stackTraces = false) {y : MethodName} (M : o_M) {d mc ms n : Nat} {al : Nat → Prop} {av : List Value} {h : Nat → o_C} {post : o_P} (hy : plainName y.cls = true) (hM : M.1 = y.cls) (hn : (lg_sl av).length ≤ M.2.2.1)
    (k : o_V l M d al post 0 (lv_args 0 av) [] n h mc ms) : o_Ct l y (.codeWith y M.2.1 M.2.2.1 M.2.2.2.1 M.2.2.2.2) d al av n h mc ms post := by
  intro Z ad
  refine vx_ofWH (cc := M.2.1) (maxL := M.2.2.1) (ret := M.2.2.2.1) (hh := M.2.2.2.2) hy rfl ?_
  intro p e s m args below meth c s₁ B hml hv
  obtain ⟨rfl, hE, hR⟩ := hv
  have hts := atoms_spec (ws := Cond.codeWith y M.2.1 M.2.2.1 M.2.2.2.1 M.2.2.2.2 :: o_gW) B.pre
  have htab : c.exceptionTable.toList = tableOf M.2.2.2.2 := vx_table (x := y) B (hts _ List.mem_cons_self)
  have hl0 := lv_entry (av.map (o_rV ad)) (n := M.2.2.1) (by rw [o_argl]; exact hn)
  rw [lg_entry_eq]
  rw [o_args] at hl0
  exact k Z p e _ s m _ below meth c ad s.heap [] 0 0 mc ms _ _ ⟨B.exec, B.bytes, by rw [hM]; exact findClass_of_methodNamed B.named, fun w hw => hts w (List.mem_cons_of_mem _ hw), hml, B.returns, B.notSynchronized, htab, hl, Nat.le_refl _, Nat.le_refl _⟩ hE va_S.rf hR (by omega) (by omega) (Nat.le_refl _) (Nat.le_refl _) hl0
    (o_Kof (l := l) B.exec B.bytes B.returns B.notSynchronized htab)
/-- weaker ends -/
theorem o_Ct.wk {l : Launch} {y : MethodName} {cw : Cond} {d mc ms n : Nat} {al : Nat → Prop} {av : List Value} {h : Nat → o_C} {post post' : o_P} (hC : o_Ct l y cw d al av n h mc ms post) (hw : ∀ o n' h', post o n' h' → post' o n' h') : o_Ct l y cw d al av n h mc ms post' := by
  intro Z ad p e h1 h2 h3 s m args below h4 h5 h6 h7
  obtain ⟨k, o, a1, a2, a3, a4⟩ := hC Z ad p e h1 h2 h3 s m args below h4 h5 h6 h7
  refine ⟨k, o, a1, a2, a3, ?_⟩
  rcases a4 with ⟨⟨⟨v, n', h', ad', b1, b2, b3⟩, b4⟩, b5⟩ | ⟨q, b1, E, ce, L, ⟨⟨n', h', ad', b2, b3⟩, b4⟩, b5⟩
  · exact Or.inl ⟨⟨⟨v, n', h', ad', b1, hw _ _ _ b2, b3⟩, b4⟩, b5⟩
  · exact Or.inr ⟨q, b1, E, ce, L, ⟨⟨n', h', ad', hw _ _ _ b2, b3⟩, b4⟩, b5⟩
end
section
/-! what a frame is owed where E was thrown over it -/
def o_T (l : Launch) (M : o_M) (d : Nat) (al : Nat → Prop) (post : o_P) (pc : Nat) (ls : List (Nat × Value)) (E : String) (n : Nat) (h : Nat → o_C) (mc ms : Nat) : Prop :=
  ∀ (Z : o_Z) (p : Program) (e : Env) (R : Room) (s : State) (m : MethodId) (args : Array Value) (below : List Frame) (meth : Method) (c : Code) (ad : Nat → Nat) (H : Heap) (locs : List Loc) (cells slots MC MS : Nat) (la : Array Slot) (Q : State → Prop) (q : Addr) (ce : Cell) (rest : List Value),
    o_X l M d p R s m args meth c → o_Ex Z ad s → va_S (o_A Z) s.heap H locs → o_Rp Z ad n h H → cells + mc ≤ MC → slots + ms ≤ MS → MC ≤ R.cells → MS ≤ R.slots → lv_has la M.2.2.1 (ls.map (fun q => (q.1, o_rV ad q.2))) →
    o_K l M Z p e R s m args below meth c ad MC MS Q al post → H[q]? = some ce → ce.vm = .none → s.vm.findClass E = some ce.cls →
    vx_W p l e R s m args below meth c H locs cells slots Q (F0 m pc la rest) q
theorem va_P.left {D : va_G} {cl : List vw_C} {w1 w2 : va_W} {H : Heap} (hP : va_P D cl (w1 ++ w2) H) : va_P D cl w1 H := fun k q hk => hP k q (by rw [List.getElem?_append_left (List.getElem?_eq_some_iff.mp hk).1]; exact hk)
theorem va_D.left {A : Nat → Prop} {w1 w2 : va_W} (hD : va_D A (w1 ++ w2)) : va_D A w1 :=
  ⟨fun i j p q hi hj e => hD.1 i j p q (by rw [List.getElem?_append_left (List.getElem?_eq_some_iff.mp hi).1]; exact hi) (by rw [List.getElem?_append_left (List.getElem?_eq_some_iff.mp hj).1]; exact hj) e,
    fun k q hk => hD.2 k q (by rw [List.getElem?_append_left (List.getElem?_eq_some_iff.mp hk).1]; exact hk)⟩
section OC
variable {l : Launch} {M : o_M} {d : Nat} {al : Nat → Prop} {post : o_P} {pc : Nat} {ls : List (Nat × Value)} {st : List Value} {n : Nat} {h : Nat → o_C} {mc ms : Nat}
/-- not caught here -/
theorem o_T.out {E : String} (hT : M.2.2.2.2 = []) (hp : post (.inr E) n h) : o_T l M d al post pc ls E n h mc ms := by
  intro Z p e R s m args below meth c ad H locs cells slots MC MS la Q q ce rest X E' S P a1 a2 a3 a4 L K hce hcv hcl
  exact K.2 E q ce n h ad H locs cells slots pc la rest hp o_ag.rf P S (by omega) (by omega) hT hce hcv hcl
/-- behind a call -/
theorem o_back {dy mcy msy : Nat} {aly : Nat → Prop} {posty : o_P} {Z : o_Z} {p : Program} {e : Env} {R : Room} {s : State} {m : MethodId} {args : Array Value} {below : List Frame} {meth : Method} {c : Code} {ad : Nat → Nat} {H : Heap} {locs : List Loc} {cells slots MC MS : Nat} {la : Array Slot} {Q : State → Prop} {a : Array Value} {rest st0 : List Value}
    (X : o_X l M d p R s m args meth c) (E : o_Ex Z ad s) (S : va_S (o_A Z) s.heap H locs) (a1 : cells + mc ≤ MC) (a2 : slots + ms ≤ MS) (a3 : MC ≤ R.cells) (a4 : MS ≤ R.slots) (L : lv_has la M.2.2.1 (ls.map (fun q => (q.1, o_rV ad q.2)))) (K : o_K l M Z p e R s m args below meth c ad MC MS Q al post)
    (hm : mcy ≤ mc) (hs : msy ≤ ms) (hal : ∀ k, aly k → al k) (hal9 : ∀ k, aly k → k < 1000000) (hfr : (∀ k, ¬ aly k) ∨ ((∀ q ∈ ls, ∀ k, q.2 = .ref k → ¬ aly k) ∧ ∀ v ∈ rest, ∀ k, v = .ref k → ¬ aly k))
    (hr : vx_Run p l e R s m args below meth c H locs cells slots mcy msy (F0 m pc la st0) (rest.map (o_rV ad)) (o_Qc Z ad aly posty a) (o_XC Z ad aly posty) (o_A Z))
    (k : ∀ v n' h', posty (.inl v) n' h' → o_V l M d al post (pc + 3) ls (v.toList ++ rest) n' h' (mc - mcy) (ms - msy))
    (kx : ∀ E n' h', posty (.inr E) n' h' → o_T l M d al post pc ls E n' h' (mc - mcy) (ms - msy)) :
    W p l e R s m args below meth c H locs cells slots Q (F0 m pc la st0) := by
  have nr : ∀ (ad' : Nat → Nat) (v : Value), o_ag aly ad ad' → (∀ k, v = .ref k → ¬ aly k) → o_rV ad' v = o_rV ad v := by
    intro ad' v hag hv
    cases v with
    | ref k => exact congrArg Value.ref (hag k (hv k rfl))
    | _ => rfl
  have nrl : ∀ (ad' : Nat → Nat), o_ag aly ad ad' → ls.map (fun q => (q.1, o_rV ad' q.2)) = ls.map (fun q => (q.1, o_rV ad q.2)) ∧ rest.map (o_rV ad') = rest.map (o_rV ad) := by
    intro ad' hag
    rcases hfr with hf | ⟨hf1, hf2⟩
    · have : ad' = ad := funext fun k => hag k (hf k)
      rw [this]
      exact ⟨rfl, rfl⟩
    · exact ⟨List.map_congr_left fun q hq => by rw [nr ad' q.2 hag (hf1 q hq)], List.map_congr_left fun v hv => nr ad' v hag (hf2 v hv)⟩
  have Kt : ∀ ad' : Nat → Nat, o_ag aly ad ad' → o_K l M Z p e R s m args below meth c ad' MC MS Q al post := fun ad' hag =>
    ⟨fun v n1 h1 ad1 H1 locs1 c1 s1 pc1 la1 q1 q2 => K.1 v n1 h1 ad1 H1 locs1 c1 s1 pc1 la1 q1 (o_ag.tr (bl := al) (fun k hk => hag k (fun z => hk (hal k z))) q2 (fun _ z => z)),
      fun E1 q9 ce n1 h1 ad1 H1 locs1 c1 s1 pc1 la1 rest1 q1 q2 => K.2 E1 q9 ce n1 h1 ad1 H1 locs1 c1 s1 pc1 la1 rest1 q1 (o_ag.tr (bl := al) (fun k hk => hag k (fun z => hk (hal k z))) q2 (fun _ z => z))⟩
  have Et : ∀ ad' : Nat → Nat, o_ag aly ad ad' → o_Ex Z ad' s := fun ad' hag => E.ad (fun k hk => hag k (fun z => by have := hal9 k z; omega))
  intro T hT X9
  rcases hr T hT X9 with ⟨v, st₀, t, T', Lc, hh0, X', hL, e1, e2, ⟨⟨v', n', h', ad', hv, hp, hag, hRp⟩, hF⟩, sg⟩ | ⟨q, st₀, t, T', Lc, E9, ce, hh0, X', hL, e1, e2, ⟨⟨n', h', ad', hp, hag, hRp⟩, hF⟩, hce, hcv, hcl, sg⟩
  · obtain ⟨k1, k2, k3⟩ := vx_keep (A0 := o_A Z) (A1 := o_A Z) (free := o_A Z) hh0 e1 S (fun _ _ z => z) (fun _ z => z) hL hF
    obtain ⟨w1, w2⟩ := nrl ad' hag
    have hv' : v = v'.map (o_rV ad') := by injection hv
    have k9 := k v' n' h' hp Z p e R s m args below meth c ad' T'.heap (locs ++ Lc) (cells + mcy) (slots + msy) MC MS la Q X (Et ad' hag) k3 (by rw [e1]; exact hRp) (by omega) (by omega) a3 a4 (by rw [w1]; exact L) (Kt ad' hag)
    rw [List.map_append, w2, show v'.toList.map (o_rV ad') = v.toList by rw [hv']; cases v' <;> rfl] at k9
    obtain ⟨t2, b1, b2⟩ := k9 T' rfl X'
    exact ⟨t2, sg t2 b1, b2⟩
  · obtain ⟨k1, k2, k3⟩ := vx_keep (A0 := o_A Z) (A1 := o_A Z) (free := o_A Z) hh0 e1 S (fun _ _ z => z) (fun _ z => z) hL hF
    obtain ⟨w1, w2⟩ := nrl ad' hag
    have k9 := kx E9 n' h' hp Z p e R s m args below meth c ad' T'.heap (locs ++ Lc) (cells + mcy) (slots + msy) MC MS la Q q ce (rest.map (o_rV ad)) X (Et ad' hag) k3 (by rw [e1]; exact hRp) (by omega) (by omega) a3 a4 (by rw [w1]; exact L) (Kt ad' hag) (by rw [e1]; exact hce) hcv hcl
    obtain ⟨t2, b1, b2⟩ := k9 T' rfl X'
    exact ⟨t2, sg.trans b1, b2⟩
/-- the callee's start -/
theorem o_preS {Z : o_Z} {ad : Nat → Nat} {s : State} {H : Heap} {locs : List Loc} {As : List Value} (E : o_Ex Z ad s) (S : va_S (o_A Z) s.heap H locs) (P : o_Rp Z ad n h H) : PreS s H (o_Pc Z ad As n h) (As.map (o_rV ad)) :=
  ⟨o_Pc.blind, fun U hU hW => ⟨rfl, E.mv (by rw [hU]; exact S.1) (fun a h1 h2 => by rw [hU]; exact S.2.1 a h1 h2) hW, by rw [hU]; exact P⟩⟩
/-- the words of a method that is called by its name -/
def o_yw (y : MethodName) (cw : Cond) : Prop := Cond.instanceMethod y ∈ o_gW ∧ Cond.selects y.cls y y ∈ o_gW ∧ Cond.initialized y.cls ∈ o_gW ∧ cw ∈ o_gW
def o_ys (y : MethodName) (cw : Cond) : Prop := Cond.static y ∈ o_gW ∧ Cond.initialized y.cls ∈ o_gW ∧ cw ∈ o_gW
def o_yi (y : MethodName) (cw : Cond) : Prop := Cond.instanceMethod y ∈ o_gW ∧ Cond.initialized y.cls ∈ o_gW ∧ cw ∈ o_gW
def o_yd (y : MethodName) (k : Nat) : Bool := decide (y.cls ≠ "java/lang/invoke/MethodHandle") && decide (y.cls ≠ "java/lang/invoke/VarHandle") && ((parseMethodDescriptor y.desc).map (fun d => d.parameters.length) == some k)
theorem o_yd_of {y : MethodName} {k : Nat} (h : o_yd y k = true) : y.cls ≠ "java/lang/invoke/MethodHandle" ∧ y.cls ≠ "java/lang/invoke/VarHandle" ∧ (parseMethodDescriptor y.desc).map (fun d => d.parameters.length) = some k := by
  simp only [o_yd, Bool.and_eq_true, decide_eq_true_eq, beq_iff_eq] at h
  exact ⟨h.1.1, h.1.2, h.2⟩
theorem o_callV {y : MethodName} {yb : ByteArray} {yL dy mcy msy index b ci N : Nat} {yr : Option FieldType} {aly : Nat → Prop} {posty : o_P} {T : u_T} {fs : List Value} (As : List Value) {rest : List Value}
    (hC : o_Ct l y (.code y yb yL yr) dy aly (.ref b :: As) n h mcy msy posty) (hd : decode M.2.1 pc = .ok (.invokevirtual index, 3)) (hw : Cond.methodLink M.1 index y ∈ o_gW) (hyw : o_yw y (.code y yb yL yr)) (hyd : o_yd y As.length = true) (hyL : yL ≤ 21)
    (hdy : dy < d) (hm : mcy ≤ mc) (hs : msy ≤ ms) (hb : b < n) (hh : h b = .inr (ci, fs)) (hc : o_cl[ci]? = some (y.cls, T, N)) (hst : st = As.reverse ++ .ref b :: rest) (hcat : (rest.map fun v => v.category).sum ≤ 8)
    (hal : ∀ k, aly k → al k) (hal9 : ∀ k, aly k → k < 1000000) (hfr : (∀ k, ¬ aly k) ∨ ((∀ q ∈ ls, ∀ k, q.2 = .ref k → ¬ aly k) ∧ ∀ v ∈ rest, ∀ k, v = .ref k → ¬ aly k))
    (k : ∀ v n' h', posty (.inl v) n' h' → o_V l M d al post (pc + 3) ls (v.toList ++ rest) n' h' (mc - mcy) (ms - msy))
    (kx : ∀ E n' h', posty (.inr E) n' h' → o_T l M d al post pc ls E n' h' (mc - mcy) (ms - msy)) : o_V l M d al post pc ls st n h mc ms := by
  intro Z p e R s m args below meth c ad H locs cells slots MC MS la Q X E S P a1 a2 a3 a4 L K
  obtain ⟨hx, hbb, hown, hts, hml, hr, hlk, htab, hst9, hfr9, hlo9⟩ := id X
  have hf1 : (o_rm dy mcy msy).frames + 1 ≤ R.frames := by show dy + 8 + 1 ≤ _; omega
  have hf2 : 8 + (yL + 11) + (o_rm dy mcy msy).locals ≤ R.locals := by show 8 + (yL + 11) + (40 * dy + 160) ≤ _; omega
  have cb : CallB R s args M.1 index y yb yL yr (.code y yb yL yr :: o_gW) (o_rm dy mcy msy) mcy msy As.length := callB_of (ws' := o_gW) As.length hts (o_gCode hyw.2.2.2) rfl rfl rfl (hts _ hyw.2.2.1) (hts _ hw) (o_yd_of hyd) ⟨hf1, hf2⟩
  have hrun := vx_runV (l := l) (e := e) (below := below) (meth := meth) (locs := locs) (cells := cells) (slots := slots) (H := H) (b := ad b) (As := As.map (o_rV ad)) (rest := rest.map (o_rV ad)) (C := y.cls) (Ts := o_gW) (nL := M.2.2.1) ⟨hx, hbb, hml, hown, hts⟩ (hC Z ad) ⟨cb, hts _ hyw.1, hts _ hyw.2.1⟩
    ⟨o_Pc.blind, va_recv (q0 := b) (ci := ci) E.2.1 P.1 hc (o_rW_get hb hh), (o_preS (As := .ref b :: As) E S P).2⟩ (g := F0 m pc la (st.map (o_rV ad))) rfl (by rw [List.length_map]) L.1 (by rw [hst]; simp [o_rV]) (by have := lv_room (m := m) (pc := pc) (ls := la) (rest := st.map (o_rV ad)) (st := rest.map (o_rV ad)) (by rw [o_cats]; exact hcat); exact this) hd ⟨by omega, by omega⟩
  exact o_back (dy := dy) X E S a1 a2 a3 a4 L K hm hs hal hal9 hfr hrun k kx
theorem o_callS {y : MethodName} {yb : ByteArray} {yL dy mcy msy index : Nat} {yr : Option FieldType} {aly : Nat → Prop} {posty : o_P} (As : List Value) {rest : List Value}
    (hC : o_Ct l y (.code y yb yL yr) dy aly As n h mcy msy posty) (hd : decode M.2.1 pc = .ok (.invokestatic index, 3)) (hw : Cond.methodLink M.1 index y ∈ o_gW) (hyw : o_ys y (.code y yb yL yr)) (hyd : o_yd y As.length = true) (hyL : yL ≤ 21)
    (hdy : dy < d) (hm : mcy ≤ mc) (hs : msy ≤ ms) (hst : st = As.reverse ++ rest) (hcat : (rest.map fun v => v.category).sum ≤ 8)
    (hal : ∀ k, aly k → al k) (hal9 : ∀ k, aly k → k < 1000000) (hfr : (∀ k, ¬ aly k) ∨ ((∀ q ∈ ls, ∀ k, q.2 = .ref k → ¬ aly k) ∧ ∀ v ∈ rest, ∀ k, v = .ref k → ¬ aly k))
    (k : ∀ v n' h', posty (.inl v) n' h' → o_V l M d al post (pc + 3) ls (v.toList ++ rest) n' h' (mc - mcy) (ms - msy))
    (kx : ∀ E n' h', posty (.inr E) n' h' → o_T l M d al post pc ls E n' h' (mc - mcy) (ms - msy)) : o_V l M d al post pc ls st n h mc ms := by
  intro Z p e R s m args below meth c ad H locs cells slots MC MS la Q X E S P a1 a2 a3 a4 L K
  obtain ⟨hx, hbb, hown, hts, hml, hr, hlk, htab, hst9, hfr9, hlo9⟩ := id X
  have hf1 : (o_rm dy mcy msy).frames + 1 ≤ R.frames := by show dy + 8 + 1 ≤ _; omega
  have hf2 : 8 + (yL + 11) + (o_rm dy mcy msy).locals ≤ R.locals := by show 8 + (yL + 11) + (40 * dy + 160) ≤ _; omega
  have cb : CallB R s args M.1 index y yb yL yr (.code y yb yL yr :: o_gW) (o_rm dy mcy msy) mcy msy As.length := callB_of (ws' := o_gW) As.length hts (o_gCode hyw.2.2) rfl rfl rfl (hts _ hyw.2.1) (hts _ hw) (o_yd_of hyd) ⟨hf1, hf2⟩
  have hrun := vx_runS (l := l) (e := e) (below := below) (meth := meth) (locs := locs) (cells := cells) (slots := slots) (H := H) (As := As.map (o_rV ad)) (rest := rest.map (o_rV ad)) (Ts := o_gW) (nL := M.2.2.1) ⟨hx, hbb, hml, hown, hts⟩ (hC Z ad) ⟨cb, hts _ hyw.1⟩
    (o_preS E S P) (g := F0 m pc la (st.map (o_rV ad))) rfl (by rw [List.length_map]) L.1 (by rw [hst]; simp) (by have := lv_room (m := m) (pc := pc) (ls := la) (rest := st.map (o_rV ad)) (st := rest.map (o_rV ad)) (by rw [o_cats]; exact hcat); exact this) hd ⟨by omega, by omega⟩
  exact o_back (dy := dy) X E S a1 a2 a3 a4 L K hm hs hal hal9 hfr hrun k kx
end OC
/-! the usual ends: an answer and a heap; an exception and a heap -/
def o_no : Nat → Prop := fun _ => False
def o_is (v : Option Value) (n : Nat) (h : Nat → o_C) : o_P := fun o n' h' => o = .inl v ∧ n' = n ∧ h' = h
def o_thr (E : String) (n : Nat) (h : Nat → o_C) : o_P := fun o n' h' => o = .inr E ∧ n' = n ∧ h' = h
section OC2
variable {l : Launch} {M : o_M} {d : Nat} {al : Nat → Prop} {post : o_P} {pc : Nat} {ls : List (Nat × Value)} {st : List Value} {n : Nat} {h : Nat → o_C} {mc ms : Nat}
/-- a call that answers v, makes nothing -/
theorem o_cV {y : MethodName} {yb : ByteArray} {yL dy index b ci N : Nat} {yr : Option FieldType} {T : u_T} {fs : List Value} (As : List Value) {rest : List Value} {v : Option Value} {h' : Nat → o_C}
    (hC : o_Ct l y (.code y yb yL yr) dy o_no (.ref b :: As) n h 0 0 (o_is v n h')) (hd : decode M.2.1 pc = .ok (.invokevirtual index, 3)) (hw : Cond.methodLink M.1 index y ∈ o_gW) (hyw : o_yw y (.code y yb yL yr)) (hyd : o_yd y As.length = true) (hyL : yL ≤ 21)
    (hdy : dy < d) (hb : b < n) (hh : h b = .inr (ci, fs)) (hc : o_cl[ci]? = some (y.cls, T, N)) (hst : st = As.reverse ++ .ref b :: rest) (hcat : (rest.map fun v => v.category).sum ≤ 8)
    (k : o_V l M d al post (pc + 3) ls (v.toList ++ rest) n h' mc ms) : o_V l M d al post pc ls st n h mc ms :=
  o_callV As hC hd hw hyw hyd hyL hdy (Nat.zero_le _) (Nat.zero_le _) hb hh hc hst hcat (fun _ z => z.elim) (fun _ z => z.elim) (Or.inl fun _ z => z) (fun v' n' h9 q => by obtain ⟨q1, rfl, rfl⟩ := q; cases q1; exact k) (fun E n' h9 q => by cases q.1)
theorem o_cS {y : MethodName} {yb : ByteArray} {yL dy index : Nat} {yr : Option FieldType} (As : List Value) {rest : List Value} {v : Option Value} {h' : Nat → o_C}
    (hC : o_Ct l y (.code y yb yL yr) dy o_no As n h 0 0 (o_is v n h')) (hd : decode M.2.1 pc = .ok (.invokestatic index, 3)) (hw : Cond.methodLink M.1 index y ∈ o_gW) (hyw : o_ys y (.code y yb yL yr)) (hyd : o_yd y As.length = true) (hyL : yL ≤ 21)
    (hdy : dy < d) (hst : st = As.reverse ++ rest) (hcat : (rest.map fun v => v.category).sum ≤ 8)
    (k : o_V l M d al post (pc + 3) ls (v.toList ++ rest) n h' mc ms) : o_V l M d al post pc ls st n h mc ms :=
  o_callS As hC hd hw hyw hyd hyL hdy (Nat.zero_le _) (Nat.zero_le _) hst hcat (fun _ z => z.elim) (fun _ z => z.elim) (Or.inl fun _ z => z) (fun v' n' h9 q => by obtain ⟨q1, rfl, rfl⟩ := q; cases q1; exact k) (fun E n' h9 q => by cases q.1)
/-- a call that throws E -/
theorem o_cVx {y : MethodName} {yb : ByteArray} {yL dy mcy msy index b ci N : Nat} {yr : Option FieldType} {T : u_T} {fs : List Value} (As : List Value) {rest : List Value} {E : String} {h' : Nat → o_C}
    (hC : o_Ct l y (.code y yb yL yr) dy o_no (.ref b :: As) n h mcy msy (o_thr E n h')) (hd : decode M.2.1 pc = .ok (.invokevirtual index, 3)) (hw : Cond.methodLink M.1 index y ∈ o_gW) (hyw : o_yw y (.code y yb yL yr)) (hyd : o_yd y As.length = true) (hyL : yL ≤ 21)
    (hdy : dy < d) (hm : mcy ≤ mc) (hs : msy ≤ ms) (hb : b < n) (hh : h b = .inr (ci, fs)) (hc : o_cl[ci]? = some (y.cls, T, N)) (hst : st = As.reverse ++ .ref b :: rest) (hcat : (rest.map fun v => v.category).sum ≤ 8)
    (k : o_T l M d al post pc ls E n h' (mc - mcy) (ms - msy)) : o_V l M d al post pc ls st n h mc ms :=
  o_callV As hC hd hw hyw hyd hyL hdy hm hs hb hh hc hst hcat (fun _ z => z.elim) (fun _ z => z.elim) (Or.inl fun _ z => z) (fun v' n' h9 q => by cases q.1) (fun E n' h9 q => by obtain ⟨q1, rfl, rfl⟩ := q; cases q1; exact k)
theorem o_cSx {y : MethodName} {yb : ByteArray} {yL dy mcy msy index : Nat} {yr : Option FieldType} (As : List Value) {rest : List Value} {E : String} {h' : Nat → o_C}
    (hC : o_Ct l y (.code y yb yL yr) dy o_no As n h mcy msy (o_thr E n h')) (hd : decode M.2.1 pc = .ok (.invokestatic index, 3)) (hw : Cond.methodLink M.1 index y ∈ o_gW) (hyw : o_ys y (.code y yb yL yr)) (hyd : o_yd y As.length = true) (hyL : yL ≤ 21)
    (hdy : dy < d) (hm : mcy ≤ mc) (hs : msy ≤ ms) (hst : st = As.reverse ++ rest) (hcat : (rest.map fun v => v.category).sum ≤ 8)
    (k : o_T l M d al post pc ls E n h' (mc - mcy) (ms - msy)) : o_V l M d al post pc ls st n h mc ms :=
  o_callS As hC hd hw hyw hyd hyL hdy hm hs hst hcat (fun _ z => z.elim) (fun _ z => z.elim) (Or.inl fun _ z => z) (fun v' n' h9 q => by cases q.1) (fun E n' h9 q => by obtain ⟨q1, rfl, rfl⟩ := q; cases q1; exact k)
/-- 'throw new E("text")' -/
theorem o_throw {cls text : String} {names : List String} {ik is ic ci sn : Nat} (hd0 : decode M.2.1 pc = .ok (.new ik, 3)) (hd3 : decode M.2.1 (pc + 3) = .ok (.dup, 1)) (hd4 : decode M.2.1 (pc + 4) = .ok (.ldc is, 2)) (hd6 : decode M.2.1 (pc + 6) = .ok (.invokespecial ic, 3)) (hd9 : decode M.2.1 (pc + 9) = .ok (.athrow, 1))
    (hcls : Bundle.fit cls = true) (hnames : ∀ n ∈ names, Bundle.fit n = true) (hnl : names.length ≤ 3) (hk : Cond.classLink M.1 ik cls ∈ o_gW) (hini : Cond.initialized cls ∈ o_gW) (hat : ∀ w ∈ vx_atS M.1 ic cls names, w ∈ o_gW) (hgood : ∀ w ∈ Cond.classLink M.1 ik cls :: Cond.initialized cls :: vx_atS M.1 ic cls names, vx_ot w = true)
    (hs9 : (M.1, is, text, sn) ∈ o_str) (hc : o_cl[ci]? = some (cls, o_T0, 0)) (hT : M.2.2.2.2 = []) (hmc : 1 ≤ mc) (hms : 6 ≤ ms) (hcat : (st.map fun v => v.category).sum ≤ 8) (hp : post (.inr cls) n h) : o_V l M d al post pc ls st n h mc ms := by
  intro Z p e R s m args below meth c ad H locs cells slots MC MS la Q X E S P a1 a2 a3 a4 L K
  obtain ⟨hx, hbb, hown, hts, hml, hr, hlk, htab, hst9, hfr9, hlo9⟩ := id X
  obtain ⟨e1, e2, e3, e4, e5, ⟨e6, e7⟩, e8⟩ := id E
  have h11 : names.length + 3 < R.frames := by omega
  have h12 : ((st.map (o_rV ad)).map fun v => v.category).sum + (13 * (names.length + 1) + 43) ≤ R.locals := by rw [o_cats]; omega
  refine vx_makeS (D := Z.2.1) (cl := o_cl) (tys := o_tys Z) (ws := o_rW ad Z.2.2.1 n h) (A := o_A Z) (T0 := o_T0) (ci := ci) hx hbb hst9 hown hcls hnames (hts _ hk) (hts _ hini) (e5 _ hs9) (fun w hw => hts _ (hat w hw)) hgood e6 e7 S (L.1.trans hml.symm) hd0 hd3 hd4 hd6 e2 P.1 P.2 (fun q hq => Nat.le_trans e1 hq) hc h11 h12 (by omega) (by omega) (fun q H1 hP hD hS => ?_)
  refine vx_athrow hx hbb hd9 ?_
  have hcell := hP n (q, .inr (ci, [])) (by simp [o_rW])
  obtain ⟨r, hr9, cell, g1, g2, g3, -⟩ := hcell
  cases Option.some.inj (hr9.symm.trans hc)
  exact K.2 cls q cell n h ad H1 locs (cells + 1) (slots + 6) (pc + 9) la (st.map (o_rV ad)) hp o_ag.rf ⟨hP.left, hD.left⟩ hS (by omega) (by omega) hT g1 g3 (by rw [g2]; exact (e2.1 ci _ hc).2.1)
end OC2
end
section
/-! the tables' words that the walks use, by their places: fields (fl_, fp_), calls (ml_), methods (yw_, ys_, yi_) -/
theorem o_gT {i : Nat} {w : Cond} (h : tables_1[i]? = some w) (g : goodWord w = true) : w ∈ o_gW := List.mem_filter.mpr ⟨List.mem_append_right _ (List.mem_of_getElem? h), g⟩
theorem o_gS {i : Nat} {w : Cond} (h : (k2_sels lw_privs)[i]? = some w) (g : goodWord w = true) : w ∈ o_gW := List.mem_filter.mpr ⟨List.mem_append_left _ (List.mem_of_getElem? h), g⟩
def o_fl (own : String) (i ci k : Nat) : Prop := ∃ (C : String) (T : u_T) (N : Nat), o_cl[ci]? = some (C, T, N) ∧ k < N ∧ Cond.fieldLink own i (T k).1 (T k).2.1 (T k).2.2.1 ∈ o_gW
def o_fp (own : String) (i ci k : Nat) (ty : FieldType) : Prop := ∃ (C : String) (T : u_T) (N : Nat), o_cl[ci]? = some (C, T, N) ∧ k < N ∧ Cond.fieldLink own i (T k).1 (T k).2.1 (T k).2.2.1 ∈ o_gW ∧ (T k).2.2.2 = false ∧ parseFieldDescriptor (T k).2.2.1 = some ty
theorem fl_X10_32 : o_fl RX10 32 2 0 := ⟨_, _, _, rfl, by decide, o_gT (i := 58) (by decide +kernel) rfl⟩
theorem fp_X10_32 : o_fp RX10 32 2 0 .int := ⟨_, _, _, rfl, by decide, o_gT (i := 58) (by decide +kernel) rfl, rfl, by decide +kernel⟩
theorem fl_X9_21 : o_fl RX9 21 2 0 := ⟨_, _, _, rfl, by decide, o_gT (i := 59) (by decide +kernel) rfl⟩
theorem fp_X9_21 : o_fp RX9 21 2 0 .int := ⟨_, _, _, rfl, by decide, o_gT (i := 59) (by decide +kernel) rfl, rfl, by decide +kernel⟩
theorem fl_X3_42 : o_fl RX3 42 2 0 := ⟨_, _, _, rfl, by decide, o_gT (i := 60) (by decide +kernel) rfl⟩
theorem fp_X3_42 : o_fp RX3 42 2 0 .int := ⟨_, _, _, rfl, by decide, o_gT (i := 60) (by decide +kernel) rfl, rfl, by decide +kernel⟩
theorem fl_X11_145 : o_fl RX11 145 2 0 := ⟨_, _, _, rfl, by decide, o_gT (i := 61) (by decide +kernel) rfl⟩
theorem fp_X11_145 : o_fp RX11 145 2 0 .int := ⟨_, _, _, rfl, by decide, o_gT (i := 61) (by decide +kernel) rfl, rfl, by decide +kernel⟩
theorem fl_X9_9 : o_fl RX9 9 2 1 := ⟨_, _, _, rfl, by decide, o_gT (i := 62) (by decide +kernel) rfl⟩
theorem fl_X11_152 : o_fl RX11 152 2 1 := ⟨_, _, _, rfl, by decide, o_gT (i := 63) (by decide +kernel) rfl⟩
theorem fl_X10_80 : o_fl RX10 80 2 1 := ⟨_, _, _, rfl, by decide, o_gT (i := 64) (by decide +kernel) rfl⟩
theorem fl_X9_15 : o_fl RX9 15 2 2 := ⟨_, _, _, rfl, by decide, o_gT (i := 65) (by decide +kernel) rfl⟩
theorem fl_X11_156 : o_fl RX11 156 2 2 := ⟨_, _, _, rfl, by decide, o_gT (i := 66) (by decide +kernel) rfl⟩
theorem fl_X10_139 : o_fl RX10 139 2 2 := ⟨_, _, _, rfl, by decide, o_gT (i := 67) (by decide +kernel) rfl⟩
theorem fl_X9_18 : o_fl RX9 18 2 3 := ⟨_, _, _, rfl, by decide, o_gT (i := 68) (by decide +kernel) rfl⟩
theorem fl_X11_159 : o_fl RX11 159 2 3 := ⟨_, _, _, rfl, by decide, o_gT (i := 69) (by decide +kernel) rfl⟩
theorem fl_X10_142 : o_fl RX10 142 2 3 := ⟨_, _, _, rfl, by decide, o_gT (i := 70) (by decide +kernel) rfl⟩
theorem fl_X7_28 : o_fl RX7 28 3 0 := ⟨_, _, _, rfl, by decide, o_gT (i := 87) (by decide +kernel) rfl⟩
theorem fp_X7_28 : o_fp RX7 28 3 0 .int := ⟨_, _, _, rfl, by decide, o_gT (i := 87) (by decide +kernel) rfl, rfl, by decide +kernel⟩
theorem fl_X10_36 : o_fl RX10 36 3 0 := ⟨_, _, _, rfl, by decide, o_gT (i := 88) (by decide +kernel) rfl⟩
theorem fp_X10_36 : o_fp RX10 36 3 0 .int := ⟨_, _, _, rfl, by decide, o_gT (i := 88) (by decide +kernel) rfl, rfl, by decide +kernel⟩
theorem fl_X4_37 : o_fl RX4 37 3 0 := ⟨_, _, _, rfl, by decide, o_gT (i := 89) (by decide +kernel) rfl⟩
theorem fp_X4_37 : o_fp RX4 37 3 0 .int := ⟨_, _, _, rfl, by decide, o_gT (i := 89) (by decide +kernel) rfl, rfl, by decide +kernel⟩
theorem fl_X11_168 : o_fl RX11 168 3 0 := ⟨_, _, _, rfl, by decide, o_gT (i := 90) (by decide +kernel) rfl⟩
theorem fp_X11_168 : o_fp RX11 168 3 0 .int := ⟨_, _, _, rfl, by decide, o_gT (i := 90) (by decide +kernel) rfl, rfl, by decide +kernel⟩
theorem fl_X7_9 : o_fl RX7 9 3 1 := ⟨_, _, _, rfl, by decide, o_gT (i := 91) (by decide +kernel) rfl⟩
theorem fl_X4_44 : o_fl RX4 44 3 1 := ⟨_, _, _, rfl, by decide, o_gT (i := 92) (by decide +kernel) rfl⟩
theorem fl_X10_63 : o_fl RX10 63 3 1 := ⟨_, _, _, rfl, by decide, o_gT (i := 93) (by decide +kernel) rfl⟩
theorem fl_X11_172 : o_fl RX11 172 3 1 := ⟨_, _, _, rfl, by decide, o_gT (i := 94) (by decide +kernel) rfl⟩
theorem fl_X7_15 : o_fl RX7 15 3 2 := ⟨_, _, _, rfl, by decide, o_gT (i := 95) (by decide +kernel) rfl⟩
theorem fl_X10_71 : o_fl RX10 71 3 2 := ⟨_, _, _, rfl, by decide, o_gT (i := 96) (by decide +kernel) rfl⟩
theorem fl_X11_179 : o_fl RX11 179 3 2 := ⟨_, _, _, rfl, by decide, o_gT (i := 97) (by decide +kernel) rfl⟩
theorem fl_X7_18 : o_fl RX7 18 3 3 := ⟨_, _, _, rfl, by decide, o_gT (i := 98) (by decide +kernel) rfl⟩
theorem fl_X10_74 : o_fl RX10 74 3 3 := ⟨_, _, _, rfl, by decide, o_gT (i := 99) (by decide +kernel) rfl⟩
theorem fl_X11_182 : o_fl RX11 182 3 3 := ⟨_, _, _, rfl, by decide, o_gT (i := 100) (by decide +kernel) rfl⟩
theorem fl_X7_21 : o_fl RX7 21 3 4 := ⟨_, _, _, rfl, by decide, o_gT (i := 101) (by decide +kernel) rfl⟩
theorem fl_X10_125 : o_fl RX10 125 3 4 := ⟨_, _, _, rfl, by decide, o_gT (i := 102) (by decide +kernel) rfl⟩
theorem fl_X11_185 : o_fl RX11 185 3 4 := ⟨_, _, _, rfl, by decide, o_gT (i := 103) (by decide +kernel) rfl⟩
theorem fl_X7_24 : o_fl RX7 24 3 5 := ⟨_, _, _, rfl, by decide, o_gT (i := 104) (by decide +kernel) rfl⟩
theorem fl_X10_121 : o_fl RX10 121 3 5 := ⟨_, _, _, rfl, by decide, o_gT (i := 105) (by decide +kernel) rfl⟩
theorem fl_X11_188 : o_fl RX11 188 3 5 := ⟨_, _, _, rfl, by decide, o_gT (i := 106) (by decide +kernel) rfl⟩
theorem fl_X8_18 : o_fl RX8 18 4 0 := ⟨_, _, _, rfl, by decide, o_gT (i := 127) (by decide +kernel) rfl⟩
theorem fp_X8_18 : o_fp RX8 18 4 0 .int := ⟨_, _, _, rfl, by decide, o_gT (i := 127) (by decide +kernel) rfl, rfl, by decide +kernel⟩
theorem fl_X10_106 : o_fl RX10 106 4 0 := ⟨_, _, _, rfl, by decide, o_gT (i := 128) (by decide +kernel) rfl⟩
theorem fp_X10_106 : o_fp RX10 106 4 0 .int := ⟨_, _, _, rfl, by decide, o_gT (i := 128) (by decide +kernel) rfl, rfl, by decide +kernel⟩
theorem fl_X11_227 : o_fl RX11 227 4 0 := ⟨_, _, _, rfl, by decide, o_gT (i := 129) (by decide +kernel) rfl⟩
theorem fp_X11_227 : o_fp RX11 227 4 0 .int := ⟨_, _, _, rfl, by decide, o_gT (i := 129) (by decide +kernel) rfl, rfl, by decide +kernel⟩
theorem fl_X8_9 : o_fl RX8 9 4 1 := ⟨_, _, _, rfl, by decide, o_gT (i := 130) (by decide +kernel) rfl⟩
theorem fl_X10_107 : o_fl RX10 107 4 1 := ⟨_, _, _, rfl, by decide, o_gT (i := 131) (by decide +kernel) rfl⟩
theorem fl_X11_231 : o_fl RX11 231 4 1 := ⟨_, _, _, rfl, by decide, o_gT (i := 132) (by decide +kernel) rfl⟩
theorem fl_X8_15 : o_fl RX8 15 4 2 := ⟨_, _, _, rfl, by decide, o_gT (i := 133) (by decide +kernel) rfl⟩
theorem fl_X10_109 : o_fl RX10 109 4 2 := ⟨_, _, _, rfl, by decide, o_gT (i := 134) (by decide +kernel) rfl⟩
theorem fl_X11_233 : o_fl RX11 233 4 2 := ⟨_, _, _, rfl, by decide, o_gT (i := 135) (by decide +kernel) rfl⟩
theorem fl_X10_12 : o_fl RX10 12 1 0 := ⟨_, _, _, rfl, by decide, o_gT (i := 143) (by decide +kernel) rfl⟩
theorem fl_X3_22 : o_fl RX3 22 1 0 := ⟨_, _, _, rfl, by decide, o_gT (i := 144) (by decide +kernel) rfl⟩
theorem fl_X11_80 : o_fl RX11 80 1 0 := ⟨_, _, _, rfl, by decide, o_gT (i := 145) (by decide +kernel) rfl⟩
theorem fl_X10_21 : o_fl RX10 21 1 1 := ⟨_, _, _, rfl, by decide, o_gT (i := 146) (by decide +kernel) rfl⟩
theorem fl_X4_21 : o_fl RX4 21 1 1 := ⟨_, _, _, rfl, by decide, o_gT (i := 147) (by decide +kernel) rfl⟩
theorem fl_X11_94 : o_fl RX11 94 1 1 := ⟨_, _, _, rfl, by decide, o_gT (i := 148) (by decide +kernel) rfl⟩
theorem fl_X3_53 : o_fl RX3 53 1 1 := ⟨_, _, _, rfl, by decide, o_gT (i := 149) (by decide +kernel) rfl⟩
theorem fl_X10_28 : o_fl RX10 28 1 2 := ⟨_, _, _, rfl, by decide, o_gT (i := 150) (by decide +kernel) rfl⟩
theorem fl_X11_121 : o_fl RX11 121 1 2 := ⟨_, _, _, rfl, by decide, o_gT (i := 151) (by decide +kernel) rfl⟩
theorem fl_X4_15 : o_fl RX4 15 1 3 := ⟨_, _, _, rfl, by decide, o_gT (i := 152) (by decide +kernel) rfl⟩
theorem fp_X4_15 : o_fp RX4 15 1 3 .int := ⟨_, _, _, rfl, by decide, o_gT (i := 152) (by decide +kernel) rfl, rfl, by decide +kernel⟩
theorem fl_X3_63 : o_fl RX3 63 1 3 := ⟨_, _, _, rfl, by decide, o_gT (i := 153) (by decide +kernel) rfl⟩
theorem fp_X3_63 : o_fp RX3 63 1 3 .int := ⟨_, _, _, rfl, by decide, o_gT (i := 153) (by decide +kernel) rfl, rfl, by decide +kernel⟩
theorem fl_X10_37 : o_fl RX10 37 1 3 := ⟨_, _, _, rfl, by decide, o_gT (i := 154) (by decide +kernel) rfl⟩
theorem fp_X10_37 : o_fp RX10 37 1 3 .int := ⟨_, _, _, rfl, by decide, o_gT (i := 154) (by decide +kernel) rfl, rfl, by decide +kernel⟩
theorem fl_X11_195 : o_fl RX11 195 1 3 := ⟨_, _, _, rfl, by decide, o_gT (i := 155) (by decide +kernel) rfl⟩
theorem fp_X11_195 : o_fp RX11 195 1 3 .int := ⟨_, _, _, rfl, by decide, o_gT (i := 155) (by decide +kernel) rfl, rfl, by decide +kernel⟩
theorem fl_X4_25 : o_fl RX4 25 1 4 := ⟨_, _, _, rfl, by decide, o_gT (i := 156) (by decide +kernel) rfl⟩
theorem fp_X4_25 : o_fp RX4 25 1 4 .int := ⟨_, _, _, rfl, by decide, o_gT (i := 156) (by decide +kernel) rfl, rfl, by decide +kernel⟩
theorem fl_X11_142 : o_fl RX11 142 1 4 := ⟨_, _, _, rfl, by decide, o_gT (i := 157) (by decide +kernel) rfl⟩
theorem fp_X11_142 : o_fp RX11 142 1 4 .int := ⟨_, _, _, rfl, by decide, o_gT (i := 157) (by decide +kernel) rfl, rfl, by decide +kernel⟩
theorem fl_X10_77 : o_fl RX10 77 1 4 := ⟨_, _, _, rfl, by decide, o_gT (i := 158) (by decide +kernel) rfl⟩
theorem fp_X10_77 : o_fp RX10 77 1 4 .int := ⟨_, _, _, rfl, by decide, o_gT (i := 158) (by decide +kernel) rfl, rfl, by decide +kernel⟩
theorem fl_X10_83 : o_fl RX10 83 1 5 := ⟨_, _, _, rfl, by decide, o_gT (i := 159) (by decide +kernel) rfl⟩
theorem fp_X10_83 : o_fp RX10 83 1 5 .int := ⟨_, _, _, rfl, by decide, o_gT (i := 159) (by decide +kernel) rfl, rfl, by decide +kernel⟩
theorem fl_X11_239 : o_fl RX11 239 1 5 := ⟨_, _, _, rfl, by decide, o_gT (i := 160) (by decide +kernel) rfl⟩
theorem fp_X11_239 : o_fp RX11 239 1 5 .int := ⟨_, _, _, rfl, by decide, o_gT (i := 160) (by decide +kernel) rfl, rfl, by decide +kernel⟩
theorem fl_X10_118 : o_fl RX10 118 1 6 := ⟨_, _, _, rfl, by decide, o_gT (i := 161) (by decide +kernel) rfl⟩
theorem fp_X10_118 : o_fp RX10 118 1 6 .int := ⟨_, _, _, rfl, by decide, o_gT (i := 161) (by decide +kernel) rfl, rfl, by decide +kernel⟩
theorem fl_X11_236 : o_fl RX11 236 1 6 := ⟨_, _, _, rfl, by decide, o_gT (i := 162) (by decide +kernel) rfl⟩
theorem fp_X11_236 : o_fp RX11 236 1 6 .int := ⟨_, _, _, rfl, by decide, o_gT (i := 162) (by decide +kernel) rfl, rfl, by decide +kernel⟩
theorem fl_X5_11 : o_fl RX5 11 5 0 := ⟨_, _, _, rfl, by decide, o_gT (i := 187) (by decide +kernel) rfl⟩
theorem fl_X5_18 : o_fl RX5 18 5 1 := ⟨_, _, _, rfl, by decide, o_gT (i := 188) (by decide +kernel) rfl⟩
theorem fp_X5_18 : o_fp RX5 18 5 1 .int := ⟨_, _, _, rfl, by decide, o_gT (i := 188) (by decide +kernel) rfl, rfl, by decide +kernel⟩
theorem fl_X5_22 : o_fl RX5 22 5 2 := ⟨_, _, _, rfl, by decide, o_gT (i := 189) (by decide +kernel) rfl⟩
theorem fp_X5_22 : o_fp RX5 22 5 2 .int := ⟨_, _, _, rfl, by decide, o_gT (i := 189) (by decide +kernel) rfl, rfl, by decide +kernel⟩
theorem fl_X11_372 : o_fl RX11 372 5 2 := ⟨_, _, _, rfl, by decide, o_gT (i := 190) (by decide +kernel) rfl⟩
theorem fp_X11_372 : o_fp RX11 372 5 2 .int := ⟨_, _, _, rfl, by decide, o_gT (i := 190) (by decide +kernel) rfl, rfl, by decide +kernel⟩
theorem fl_X4_9 : o_fl RX4 9 6 0 := ⟨_, _, _, rfl, by decide, o_gT (i := 204) (by decide +kernel) rfl⟩
theorem fl_X3_9 : o_fl RX3 9 7 0 := ⟨_, _, _, rfl, by decide, o_gT (i := 214) (by decide +kernel) rfl⟩
theorem fl_X3_15 : o_fl RX3 15 7 1 := ⟨_, _, _, rfl, by decide, o_gT (i := 215) (by decide +kernel) rfl⟩
theorem fl_X3_18 : o_fl RX3 18 7 2 := ⟨_, _, _, rfl, by decide, o_gT (i := 216) (by decide +kernel) rfl⟩
theorem fl_X3_38 : o_fl RX3 38 7 3 := ⟨_, _, _, rfl, by decide, o_gT (i := 217) (by decide +kernel) rfl⟩
theorem fp_X3_38 : o_fp RX3 38 7 3 .int := ⟨_, _, _, rfl, by decide, o_gT (i := 217) (by decide +kernel) rfl, rfl, by decide +kernel⟩
theorem fl_X1_15 : o_fl RX1 15 9 0 := ⟨_, _, _, rfl, by decide, o_gT (i := 242) (by decide +kernel) rfl⟩
theorem fp_X1_15 : o_fp RX1 15 9 0 (.object "LampLeaseOffice$Keyword") := ⟨_, _, _, rfl, by decide, o_gT (i := 242) (by decide +kernel) rfl, rfl, by decide +kernel⟩
theorem fl_X2_44 : o_fl RX2 44 9 0 := ⟨_, _, _, rfl, by decide, o_gT (i := 243) (by decide +kernel) rfl⟩
theorem fp_X2_44 : o_fp RX2 44 9 0 (.object "LampLeaseOffice$Keyword") := ⟨_, _, _, rfl, by decide, o_gT (i := 243) (by decide +kernel) rfl, rfl, by decide +kernel⟩
theorem fl_X11_327 : o_fl RX11 327 9 0 := ⟨_, _, _, rfl, by decide, o_gT (i := 244) (by decide +kernel) rfl⟩
theorem fp_X11_327 : o_fp RX11 327 9 0 (.object "LampLeaseOffice$Keyword") := ⟨_, _, _, rfl, by decide, o_gT (i := 244) (by decide +kernel) rfl, rfl, by decide +kernel⟩
theorem fl_X1_20 : o_fl RX1 20 9 1 := ⟨_, _, _, rfl, by decide, o_gT (i := 245) (by decide +kernel) rfl⟩
theorem fl_X2_9 : o_fl RX2 9 8 0 := ⟨_, _, _, rfl, by decide, o_gT (i := 252) (by decide +kernel) rfl⟩
theorem fl_X2_17 : o_fl RX2 17 8 1 := ⟨_, _, _, rfl, by decide, o_gT (i := 253) (by decide +kernel) rfl⟩
theorem fl_X11_305 : o_fl RX11 305 8 1 := ⟨_, _, _, rfl, by decide, o_gT (i := 254) (by decide +kernel) rfl⟩
theorem fl_X2_22 : o_fl RX2 22 8 2 := ⟨_, _, _, rfl, by decide, o_gT (i := 255) (by decide +kernel) rfl⟩
theorem fp_X2_22 : o_fp RX2 22 8 2 .int := ⟨_, _, _, rfl, by decide, o_gT (i := 255) (by decide +kernel) rfl, rfl, by decide +kernel⟩
theorem fl_X11_274 : o_fl RX11 274 8 2 := ⟨_, _, _, rfl, by decide, o_gT (i := 256) (by decide +kernel) rfl⟩
theorem fp_X11_274 : o_fp RX11 274 8 2 .int := ⟨_, _, _, rfl, by decide, o_gT (i := 256) (by decide +kernel) rfl, rfl, by decide +kernel⟩
theorem fl_X2_29 : o_fl RX2 29 8 3 := ⟨_, _, _, rfl, by decide, o_gT (i := 257) (by decide +kernel) rfl⟩
theorem fp_X2_29 : o_fp RX2 29 8 3 .int := ⟨_, _, _, rfl, by decide, o_gT (i := 257) (by decide +kernel) rfl, rfl, by decide +kernel⟩
theorem fl_X11_302 : o_fl RX11 302 8 3 := ⟨_, _, _, rfl, by decide, o_gT (i := 258) (by decide +kernel) rfl⟩
theorem fp_X11_302 : o_fp RX11 302 8 3 .int := ⟨_, _, _, rfl, by decide, o_gT (i := 258) (by decide +kernel) rfl, rfl, by decide +kernel⟩
theorem fl_X2_26 : o_fl RX2 26 8 4 := ⟨_, _, _, rfl, by decide, o_gT (i := 259) (by decide +kernel) rfl⟩
theorem fp_X2_26 : o_fp RX2 26 8 4 .int := ⟨_, _, _, rfl, by decide, o_gT (i := 259) (by decide +kernel) rfl, rfl, by decide +kernel⟩
theorem fl_X11_291 : o_fl RX11 291 8 4 := ⟨_, _, _, rfl, by decide, o_gT (i := 260) (by decide +kernel) rfl⟩
theorem fp_X11_291 : o_fp RX11 291 8 4 .int := ⟨_, _, _, rfl, by decide, o_gT (i := 260) (by decide +kernel) rfl, rfl, by decide +kernel⟩
theorem fl_J5_15 : o_fl RJ5 15 11 0 := ⟨_, _, _, rfl, by decide, o_gT (i := 290) (by decide +kernel) rfl⟩
theorem fp_J5_15 : o_fp RJ5 15 11 0 (.array .byte) := ⟨_, _, _, rfl, by decide, o_gT (i := 290) (by decide +kernel) rfl, rfl, by decide +kernel⟩
theorem fl_J5_22 : o_fl RJ5 22 11 1 := ⟨_, _, _, rfl, by decide, o_gT (i := 291) (by decide +kernel) rfl⟩
theorem fp_J5_22 : o_fp RJ5 22 11 1 .byte := ⟨_, _, _, rfl, by decide, o_gT (i := 291) (by decide +kernel) rfl, rfl, by decide +kernel⟩
theorem fl_J5_73 : o_fl RJ5 73 11 2 := ⟨_, _, _, rfl, by decide, o_gT (i := 292) (by decide +kernel) rfl⟩
theorem fp_J5_73 : o_fp RJ5 73 11 2 .boolean := ⟨_, _, _, rfl, by decide, o_gT (i := 292) (by decide +kernel) rfl, rfl, by decide +kernel⟩
theorem fl_J0_1048 : o_fl RJ0 1048 11 2 := ⟨_, _, _, rfl, by decide, o_gT (i := 293) (by decide +kernel) rfl⟩
theorem fp_J0_1048 : o_fp RJ0 1048 11 2 .boolean := ⟨_, _, _, rfl, by decide, o_gT (i := 293) (by decide +kernel) rfl, rfl, by decide +kernel⟩
theorem fl_J5_79 : o_fl RJ5 79 11 3 := ⟨_, _, _, rfl, by decide, o_gT (i := 294) (by decide +kernel) rfl⟩
theorem fp_J5_79 : o_fp RJ5 79 11 3 .int := ⟨_, _, _, rfl, by decide, o_gT (i := 294) (by decide +kernel) rfl, rfl, by decide +kernel⟩
theorem fl_X11_12 : o_fl RX11 12 0 0 := ⟨_, _, _, rfl, by decide, o_gT (i := 305) (by decide +kernel) rfl⟩
theorem fl_X11_16 : o_fl RX11 16 0 1 := ⟨_, _, _, rfl, by decide, o_gT (i := 306) (by decide +kernel) rfl⟩
theorem fl_X11_19 : o_fl RX11 19 0 2 := ⟨_, _, _, rfl, by decide, o_gT (i := 307) (by decide +kernel) rfl⟩
theorem fl_X11_378 : o_fl RX11 378 0 3 := ⟨_, _, _, rfl, by decide, o_gT (i := 308) (by decide +kernel) rfl⟩
theorem fp_X11_378 : o_fp RX11 378 0 3 .boolean := ⟨_, _, _, rfl, by decide, o_gT (i := 308) (by decide +kernel) rfl, rfl, by decide +kernel⟩
theorem fl_X11_25 : o_fl RX11 25 0 4 := ⟨_, _, _, rfl, by decide, o_gT (i := 309) (by decide +kernel) rfl⟩
theorem fl_X11_32 : o_fl RX11 32 0 5 := ⟨_, _, _, rfl, by decide, o_gT (i := 310) (by decide +kernel) rfl⟩
theorem fl_X11_39 : o_fl RX11 39 0 6 := ⟨_, _, _, rfl, by decide, o_gT (i := 311) (by decide +kernel) rfl⟩
theorem fl_X11_46 : o_fl RX11 46 0 7 := ⟨_, _, _, rfl, by decide, o_gT (i := 312) (by decide +kernel) rfl⟩
theorem fl_X11_53 : o_fl RX11 53 0 8 := ⟨_, _, _, rfl, by decide, o_gT (i := 313) (by decide +kernel) rfl⟩
theorem fl_X11_57 : o_fl RX11 57 0 9 := ⟨_, _, _, rfl, by decide, o_gT (i := 314) (by decide +kernel) rfl⟩
theorem fp_X11_57 : o_fp RX11 57 0 9 .int := ⟨_, _, _, rfl, by decide, o_gT (i := 314) (by decide +kernel) rfl, rfl, by decide +kernel⟩
theorem fl_X11_61 : o_fl RX11 61 0 10 := ⟨_, _, _, rfl, by decide, o_gT (i := 315) (by decide +kernel) rfl⟩
theorem fp_X11_61 : o_fp RX11 61 0 10 .int := ⟨_, _, _, rfl, by decide, o_gT (i := 315) (by decide +kernel) rfl, rfl, by decide +kernel⟩
theorem fl_X11_64 : o_fl RX11 64 0 11 := ⟨_, _, _, rfl, by decide, o_gT (i := 316) (by decide +kernel) rfl⟩
theorem fp_X11_64 : o_fp RX11 64 0 11 .char := ⟨_, _, _, rfl, by decide, o_gT (i := 316) (by decide +kernel) rfl, rfl, by decide +kernel⟩
theorem fl_X12_9 : o_fl RX12 9 10 0 := ⟨_, _, _, rfl, by decide, o_gT (i := 1542) (by decide +kernel) rfl⟩
theorem fl_X12_13 : o_fl RX12 13 10 1 := ⟨_, _, _, rfl, by decide, o_gT (i := 1543) (by decide +kernel) rfl⟩
theorem fl_X12_16 : o_fl RX12 16 10 2 := ⟨_, _, _, rfl, by decide, o_gT (i := 1544) (by decide +kernel) rfl⟩
theorem fl_X12_19 : o_fl RX12 19 10 3 := ⟨_, _, _, rfl, by decide, o_gT (i := 1545) (by decide +kernel) rfl⟩
theorem fl_X12_254 : o_fl RX12 254 10 4 := ⟨_, _, _, rfl, by decide, o_gT (i := 1546) (by decide +kernel) rfl⟩
theorem fp_X12_254 : o_fp RX12 254 10 4 .boolean := ⟨_, _, _, rfl, by decide, o_gT (i := 1546) (by decide +kernel) rfl, rfl, by decide +kernel⟩
theorem fl_X12_22 : o_fl RX12 22 10 5 := ⟨_, _, _, rfl, by decide, o_gT (i := 1547) (by decide +kernel) rfl⟩
theorem fl_X12_51 : o_fl RX12 51 10 6 := ⟨_, _, _, rfl, by decide, o_gT (i := 1548) (by decide +kernel) rfl⟩
theorem fp_X12_51 : o_fp RX12 51 10 6 .int := ⟨_, _, _, rfl, by decide, o_gT (i := 1548) (by decide +kernel) rfl, rfl, by decide +kernel⟩
theorem fl_X12_42 : o_fl RX12 42 10 7 := ⟨_, _, _, rfl, by decide, o_gT (i := 1549) (by decide +kernel) rfl⟩
theorem fp_X12_42 : o_fp RX12 42 10 7 .int := ⟨_, _, _, rfl, by decide, o_gT (i := 1549) (by decide +kernel) rfl, rfl, by decide +kernel⟩
theorem fl_X12_25 : o_fl RX12 25 10 8 := ⟨_, _, _, rfl, by decide, o_gT (i := 1550) (by decide +kernel) rfl⟩
theorem fl_X12_172 : o_fl RX12 172 10 9 := ⟨_, _, _, rfl, by decide, o_gT (i := 1551) (by decide +kernel) rfl⟩
theorem fp_X12_172 : o_fp RX12 172 10 9 .int := ⟨_, _, _, rfl, by decide, o_gT (i := 1551) (by decide +kernel) rfl, rfl, by decide +kernel⟩
theorem fl_X12_29 : o_fl RX12 29 10 10 := ⟨_, _, _, rfl, by decide, o_gT (i := 1552) (by decide +kernel) rfl⟩
theorem fl_X12_182 : o_fl RX12 182 10 11 := ⟨_, _, _, rfl, by decide, o_gT (i := 1553) (by decide +kernel) rfl⟩
theorem fp_X12_182 : o_fp RX12 182 10 11 .int := ⟨_, _, _, rfl, by decide, o_gT (i := 1553) (by decide +kernel) rfl, rfl, by decide +kernel⟩
theorem fl_X12_185 : o_fl RX12 185 10 12 := ⟨_, _, _, rfl, by decide, o_gT (i := 1554) (by decide +kernel) rfl⟩
theorem fp_X12_185 : o_fp RX12 185 10 12 .int := ⟨_, _, _, rfl, by decide, o_gT (i := 1554) (by decide +kernel) rfl, rfl, by decide +kernel⟩
theorem fl_X12_192 : o_fl RX12 192 10 13 := ⟨_, _, _, rfl, by decide, o_gT (i := 1555) (by decide +kernel) rfl⟩
theorem fp_X12_192 : o_fp RX12 192 10 13 .boolean := ⟨_, _, _, rfl, by decide, o_gT (i := 1555) (by decide +kernel) rfl, rfl, by decide +kernel⟩
theorem fl_X12_32 : o_fl RX12 32 10 14 := ⟨_, _, _, rfl, by decide, o_gT (i := 1556) (by decide +kernel) rfl⟩
theorem fp_X12_32 : o_fp RX12 32 10 14 .int := ⟨_, _, _, rfl, by decide, o_gT (i := 1556) (by decide +kernel) rfl, rfl, by decide +kernel⟩
theorem fl_X12_36 : o_fl RX12 36 10 15 := ⟨_, _, _, rfl, by decide, o_gT (i := 1557) (by decide +kernel) rfl⟩
theorem fp_X12_36 : o_fp RX12 36 10 15 .int := ⟨_, _, _, rfl, by decide, o_gT (i := 1557) (by decide +kernel) rfl, rfl, by decide +kernel⟩
theorem fl_X12_250 : o_fl RX12 250 10 16 := ⟨_, _, _, rfl, by decide, o_gT (i := 1558) (by decide +kernel) rfl⟩
theorem fp_X12_250 : o_fp RX12 250 10 16 .char := ⟨_, _, _, rfl, by decide, o_gT (i := 1558) (by decide +kernel) rfl, rfl, by decide +kernel⟩
theorem fl_X12_39 : o_fl RX12 39 10 17 := ⟨_, _, _, rfl, by decide, o_gT (i := 1559) (by decide +kernel) rfl⟩
theorem fl_X12_213 : o_fl RX12 213 10 18 := ⟨_, _, _, rfl, by decide, o_gT (i := 1560) (by decide +kernel) rfl⟩
theorem fp_X12_213 : o_fp RX12 213 10 18 .int := ⟨_, _, _, rfl, by decide, o_gT (i := 1560) (by decide +kernel) rfl, rfl, by decide +kernel⟩
abbrev mX11_init : o_M := (RX11, cX11_init, 1, none, [])
abbrev wX11_init : Cond := .code yX11_init cX11_init 1 (none)
theorem yi_X11_init : o_yi yX11_init wX11_init := ⟨o_gT (i := 41) (by decide +kernel) rfl, o_gT (i := 1) (by decide +kernel) rfl, o_gT (i := 42) (by decide +kernel) rfl⟩
abbrev mX10_init : o_M := (RX10, cX10_init, 1, none, [])
abbrev wX10_init : Cond := .code yX10_init cX10_init 1 (none)
theorem yi_X10_init : o_yi yX10_init wX10_init := ⟨o_gT (i := 49) (by decide +kernel) rfl, o_gT (i := 2) (by decide +kernel) rfl, o_gT (i := 50) (by decide +kernel) rfl⟩
abbrev mX9_init : o_M := (RX9, cX9_init, 1, none, [])
abbrev wX9_init : Cond := .code yX9_init cX9_init 1 (none)
theorem yi_X9_init : o_yi yX9_init wX9_init := ⟨o_gT (i := 55) (by decide +kernel) rfl, o_gT (i := 3) (by decide +kernel) rfl, o_gT (i := 56) (by decide +kernel) rfl⟩
abbrev mX7_init : o_M := (RX7, cX7_init, 1, none, [])
abbrev wX7_init : Cond := .code yX7_init cX7_init 1 (none)
theorem yi_X7_init : o_yi yX7_init wX7_init := ⟨o_gT (i := 84) (by decide +kernel) rfl, o_gT (i := 4) (by decide +kernel) rfl, o_gT (i := 85) (by decide +kernel) rfl⟩
abbrev mX8_init : o_M := (RX8, cX8_init, 1, none, [])
abbrev wX8_init : Cond := .code yX8_init cX8_init 1 (none)
theorem yi_X8_init : o_yi yX8_init wX8_init := ⟨o_gT (i := 124) (by decide +kernel) rfl, o_gT (i := 5) (by decide +kernel) rfl, o_gT (i := 125) (by decide +kernel) rfl⟩
abbrev mX5_init : o_M := (RX5, cX5_init, 2, none, [])
abbrev wX5_init : Cond := .code yX5_init cX5_init 2 (none)
theorem yi_X5_init : o_yi yX5_init wX5_init := ⟨o_gT (i := 181) (by decide +kernel) rfl, o_gT (i := 6) (by decide +kernel) rfl, o_gT (i := 182) (by decide +kernel) rfl⟩
abbrev mX4_init : o_M := (RX4, cX4_init, 1, none, [])
abbrev wX4_init : Cond := .code yX4_init cX4_init 1 (none)
theorem yi_X4_init : o_yi yX4_init wX4_init := ⟨o_gT (i := 201) (by decide +kernel) rfl, o_gT (i := 7) (by decide +kernel) rfl, o_gT (i := 202) (by decide +kernel) rfl⟩
abbrev mX3_init : o_M := (RX3, cX3_init, 1, none, [])
abbrev wX3_init : Cond := .code yX3_init cX3_init 1 (none)
theorem yi_X3_init : o_yi yX3_init wX3_init := ⟨o_gT (i := 211) (by decide +kernel) rfl, o_gT (i := 8) (by decide +kernel) rfl, o_gT (i := 212) (by decide +kernel) rfl⟩
abbrev mX2_init : o_M := (RX2, cX2_init, 2, none, [])
abbrev wX2_init : Cond := .code yX2_init cX2_init 2 (none)
theorem yi_X2_init : o_yi yX2_init wX2_init := ⟨o_gT (i := 230) (by decide +kernel) rfl, o_gT (i := 9) (by decide +kernel) rfl, o_gT (i := 231) (by decide +kernel) rfl⟩
abbrev mX1_init : o_M := (RX1, cX1_init, 1, none, [])
abbrev wX1_init : Cond := .code yX1_init cX1_init 1 (none)
theorem yi_X1_init : o_yi yX1_init wX1_init := ⟨o_gT (i := 237) (by decide +kernel) rfl, o_gT (i := 10) (by decide +kernel) rfl, o_gT (i := 238) (by decide +kernel) rfl⟩
abbrev mJ4_init_da8c8 : o_M := (RJ4, cJ4_init_da8c8, 1, none, [])
abbrev wJ4_init_da8c8 : Cond := .code yJ4_init_da8c8 cJ4_init_da8c8 1 (none)
theorem yi_J4_init_da8c8 : o_yi yJ4_init_da8c8 wJ4_init_da8c8 := ⟨o_gT (i := 275) (by decide +kernel) rfl, o_gT (i := 14) (by decide +kernel) rfl, o_gT (i := 276) (by decide +kernel) rfl⟩
abbrev mJ5_init_d00df : o_M := (RJ5, cJ5_init_d00df, 2, none, [])
abbrev wJ5_init_d00df : Cond := .code yJ5_init_d00df cJ5_init_d00df 2 (none)
theorem yi_J5_init_d00df : o_yi yJ5_init_d00df wJ5_init_d00df := ⟨o_gT (i := 278) (by decide +kernel) rfl, o_gT (i := 13) (by decide +kernel) rfl, o_gT (i := 279) (by decide +kernel) rfl⟩
abbrev mJ2_newBytesFor_77867 : o_M := (RJ2, cJ2_newBytesFor_77867, 1, some (.array .byte), [])
abbrev wJ2_newBytesFor_77867 : Cond := .code yJ2_newBytesFor_77867 cJ2_newBytesFor_77867 1 (some (.array .byte))
theorem ys_J2_newBytesFor_77867 : o_ys yJ2_newBytesFor_77867 wJ2_newBytesFor_77867 := ⟨o_gT (i := 284) (by decide +kernel) rfl, o_gT (i := 16) (by decide +kernel) rfl, o_gT (i := 285) (by decide +kernel) rfl⟩
abbrev mJ2_newBytesLength_0f7a4 : o_M := (RJ2, cJ2_newBytesLength_0f7a4, 1, some .int, [])
abbrev wJ2_newBytesLength_0f7a4 : Cond := .code yJ2_newBytesLength_0f7a4 cJ2_newBytesLength_0f7a4 1 (some .int)
theorem ys_J2_newBytesLength_0f7a4 : o_ys yJ2_newBytesLength_0f7a4 wJ2_newBytesLength_0f7a4 := ⟨o_gT (i := 287) (by decide +kernel) rfl, o_gT (i := 16) (by decide +kernel) rfl, o_gT (i := 288) (by decide +kernel) rfl⟩
abbrev mX11_hour : o_M := (RX11, cX11_hour, 1, some .int, [])
abbrev wX11_hour : Cond := .code yX11_hour cX11_hour 1 (some .int)
theorem yw_X11_hour : o_yw yX11_hour wX11_hour := ⟨o_gT (i := 343) (by decide +kernel) rfl, o_gT (i := 344) (by decide +kernel) rfl, o_gT (i := 1) (by decide +kernel) rfl, o_gT (i := 345) (by decide +kernel) rfl⟩
abbrev mX11_shipCount : o_M := (RX11, cX11_shipCount, 1, some .int, [])
abbrev wX11_shipCount : Cond := .code yX11_shipCount cX11_shipCount 1 (some .int)
theorem yw_X11_shipCount : o_yw yX11_shipCount wX11_shipCount := ⟨o_gT (i := 347) (by decide +kernel) rfl, o_gT (i := 348) (by decide +kernel) rfl, o_gT (i := 1) (by decide +kernel) rfl, o_gT (i := 349) (by decide +kernel) rfl⟩
abbrev mX11_lampCount : o_M := (RX11, cX11_lampCount, 1, some .int, [])
abbrev wX11_lampCount : Cond := .code yX11_lampCount cX11_lampCount 1 (some .int)
theorem yw_X11_lampCount : o_yw yX11_lampCount wX11_lampCount := ⟨o_gT (i := 351) (by decide +kernel) rfl, o_gT (i := 352) (by decide +kernel) rfl, o_gT (i := 1) (by decide +kernel) rfl, o_gT (i := 353) (by decide +kernel) rfl⟩
abbrev mX11_leasedLamps : o_M := (RX11, cX11_leasedLamps, 1, some .int, [])
abbrev wX11_leasedLamps : Cond := .code yX11_leasedLamps cX11_leasedLamps 1 (some .int)
theorem yw_X11_leasedLamps : o_yw yX11_leasedLamps wX11_leasedLamps := ⟨o_gT (i := 355) (by decide +kernel) rfl, o_gT (i := 356) (by decide +kernel) rfl, o_gT (i := 1) (by decide +kernel) rfl, o_gT (i := 357) (by decide +kernel) rfl⟩
abbrev mX7_countTaken : o_M := (RX7, cX7_countTaken, 3, some .int, [])
abbrev wX7_countTaken : Cond := .code yX7_countTaken cX7_countTaken 3 (some .int)
theorem yw_X7_countTaken : o_yw yX7_countTaken wX7_countTaken := ⟨o_gT (i := 359) (by decide +kernel) rfl, o_gT (i := 360) (by decide +kernel) rfl, o_gT (i := 4) (by decide +kernel) rfl, o_gT (i := 361) (by decide +kernel) rfl⟩
abbrev mX7_isTaken : o_M := (RX7, cX7_isTaken, 2, some .boolean, [])
abbrev wX7_isTaken : Cond := .code yX7_isTaken cX7_isTaken 2 (some .boolean)
theorem yw_X7_isTaken : o_yw yX7_isTaken wX7_isTaken := ⟨o_gT (i := 363) (by decide +kernel) rfl, o_gT (i := 364) (by decide +kernel) rfl, o_gT (i := 4) (by decide +kernel) rfl, o_gT (i := 365) (by decide +kernel) rfl⟩
abbrev mX11_oil : o_M := (RX11, cX11_oil, 1, some .int, [])
abbrev wX11_oil : Cond := .code yX11_oil cX11_oil 1 (some .int)
theorem yw_X11_oil : o_yw yX11_oil wX11_oil := ⟨o_gT (i := 367) (by decide +kernel) rfl, o_gT (i := 368) (by decide +kernel) rfl, o_gT (i := 1) (by decide +kernel) rfl, o_gT (i := 369) (by decide +kernel) rfl⟩
abbrev mX11_consumption : o_M := (RX11, cX11_consumption, 1, some .int, [])
abbrev wX11_consumption : Cond := .code yX11_consumption cX11_consumption 1 (some .int)
theorem yw_X11_consumption : o_yw yX11_consumption wX11_consumption := ⟨o_gT (i := 371) (by decide +kernel) rfl, o_gT (i := 372) (by decide +kernel) rfl, o_gT (i := 1) (by decide +kernel) rfl, o_gT (i := 373) (by decide +kernel) rfl⟩
abbrev mX7_demandOfAll : o_M := (RX7, cX7_demandOfAll, 3, some .int, [])
abbrev wX7_demandOfAll : Cond := .code yX7_demandOfAll cX7_demandOfAll 3 (some .int)
theorem yw_X7_demandOfAll : o_yw yX7_demandOfAll wX7_demandOfAll := ⟨o_gT (i := 375) (by decide +kernel) rfl, o_gT (i := 376) (by decide +kernel) rfl, o_gT (i := 4) (by decide +kernel) rfl, o_gT (i := 377) (by decide +kernel) rfl⟩
abbrev mX11_brightNext : o_M := (RX11, cX11_brightNext, 1, some .int, [])
abbrev wX11_brightNext : Cond := .code yX11_brightNext cX11_brightNext 1 (some .int)
theorem yw_X11_brightNext : o_yw yX11_brightNext wX11_brightNext := ⟨o_gT (i := 379) (by decide +kernel) rfl, o_gT (i := 380) (by decide +kernel) rfl, o_gT (i := 1) (by decide +kernel) rfl, o_gT (i := 381) (by decide +kernel) rfl⟩
abbrev mX4_nextBrightLamps : o_M := (RX4, cX4_nextBrightLamps, 5, some .int, [])
abbrev wX4_nextBrightLamps : Cond := .code yX4_nextBrightLamps cX4_nextBrightLamps 5 (some .int)
theorem yw_X4_nextBrightLamps : o_yw yX4_nextBrightLamps wX4_nextBrightLamps := ⟨o_gT (i := 383) (by decide +kernel) rfl, o_gT (i := 384) (by decide +kernel) rfl, o_gT (i := 7) (by decide +kernel) rfl, o_gT (i := 385) (by decide +kernel) rfl⟩
abbrev mX11_mostBright : o_M := (RX11, cX11_mostBright, 1, some .int, [])
abbrev wX11_mostBright : Cond := .code yX11_mostBright cX11_mostBright 1 (some .int)
theorem yw_X11_mostBright : o_yw yX11_mostBright wX11_mostBright := ⟨o_gT (i := 388) (by decide +kernel) rfl, o_gT (i := 389) (by decide +kernel) rfl, o_gT (i := 1) (by decide +kernel) rfl, o_gT (i := 390) (by decide +kernel) rfl⟩
abbrev mX4_mostLampsByLevels : o_M := (RX4, cX4_mostLampsByLevels, 6, some .int, [])
abbrev wX4_mostLampsByLevels : Cond := .code yX4_mostLampsByLevels cX4_mostLampsByLevels 6 (some .int)
theorem yw_X4_mostLampsByLevels : o_yw yX4_mostLampsByLevels wX4_mostLampsByLevels := ⟨o_gT (i := 392) (by decide +kernel) rfl, o_gT (i := 393) (by decide +kernel) rfl, o_gT (i := 7) (by decide +kernel) rfl, o_gT (i := 394) (by decide +kernel) rfl⟩
abbrev mX11_mostBrightBySums : o_M := (RX11, cX11_mostBrightBySums, 1, some .int, [])
abbrev wX11_mostBrightBySums : Cond := .code yX11_mostBrightBySums cX11_mostBrightBySums 1 (some .int)
theorem yw_X11_mostBrightBySums : o_yw yX11_mostBrightBySums wX11_mostBrightBySums := ⟨o_gT (i := 396) (by decide +kernel) rfl, o_gT (i := 397) (by decide +kernel) rfl, o_gT (i := 1) (by decide +kernel) rfl, o_gT (i := 398) (by decide +kernel) rfl⟩
abbrev mX4_mostLampsByTable : o_M := (RX4, cX4_mostLampsByTable, 4, some .int, [])
abbrev wX4_mostLampsByTable : Cond := .code yX4_mostLampsByTable cX4_mostLampsByTable 4 (some .int)
theorem yw_X4_mostLampsByTable : o_yw yX4_mostLampsByTable wX4_mostLampsByTable := ⟨o_gT (i := 400) (by decide +kernel) rfl, o_gT (i := 401) (by decide +kernel) rfl, o_gT (i := 7) (by decide +kernel) rfl, o_gT (i := 402) (by decide +kernel) rfl⟩
abbrev mX4_clearTable : o_M := (RX4, cX4_clearTable, 2, none, [])
abbrev wX4_clearTable : Cond := .code yX4_clearTable cX4_clearTable 2 (none)
theorem yw_X4_clearTable : o_yw yX4_clearTable wX4_clearTable := ⟨o_gT (i := 405) (by decide +kernel) rfl, o_gS (i := 0) (by decide +kernel) rfl, o_gT (i := 7) (by decide +kernel) rfl, o_gT (i := 406) (by decide +kernel) rfl⟩
abbrev mX4_enterInTable : o_M := (RX4, cX4_enterInTable, 4, none, [])
abbrev wX4_enterInTable : Cond := .code yX4_enterInTable cX4_enterInTable 4 (none)
theorem yw_X4_enterInTable : o_yw yX4_enterInTable wX4_enterInTable := ⟨o_gT (i := 409) (by decide +kernel) rfl, o_gS (i := 1) (by decide +kernel) rfl, o_gT (i := 7) (by decide +kernel) rfl, o_gT (i := 410) (by decide +kernel) rfl⟩
abbrev mJ9_max_7cf53 : o_M := (RJ9, cJ9_max_7cf53, 2, some .int, [])
abbrev wJ9_max_7cf53 : Cond := .code yJ9_max_7cf53 cJ9_max_7cf53 2 (some .int)
theorem ys_J9_max_7cf53 : o_ys yJ9_max_7cf53 wJ9_max_7cf53 := ⟨o_gT (i := 412) (by decide +kernel) rfl, o_gT (i := 28) (by decide +kernel) rfl, o_gT (i := 413) (by decide +kernel) rfl⟩
abbrev mX11_requestCount : o_M := (RX11, cX11_requestCount, 1, some .int, [])
abbrev wX11_requestCount : Cond := .code yX11_requestCount cX11_requestCount 1 (some .int)
theorem yw_X11_requestCount : o_yw yX11_requestCount wX11_requestCount := ⟨o_gT (i := 415) (by decide +kernel) rfl, o_gT (i := 416) (by decide +kernel) rfl, o_gT (i := 1) (by decide +kernel) rfl, o_gT (i := 417) (by decide +kernel) rfl⟩
abbrev mX11_refusedRenewals : o_M := (RX11, cX11_refusedRenewals, 1, some .int, [])
abbrev wX11_refusedRenewals : Cond := .code yX11_refusedRenewals cX11_refusedRenewals 1 (some .int)
theorem yw_X11_refusedRenewals : o_yw yX11_refusedRenewals wX11_refusedRenewals := ⟨o_gT (i := 419) (by decide +kernel) rfl, o_gT (i := 420) (by decide +kernel) rfl, o_gT (i := 1) (by decide +kernel) rfl, o_gT (i := 421) (by decide +kernel) rfl⟩
abbrev mX11_officeCoins : o_M := (RX11, cX11_officeCoins, 1, some .int, [])
abbrev wX11_officeCoins : Cond := .code yX11_officeCoins cX11_officeCoins 1 (some .int)
theorem yw_X11_officeCoins : o_yw yX11_officeCoins wX11_officeCoins := ⟨o_gT (i := 423) (by decide +kernel) rfl, o_gT (i := 424) (by decide +kernel) rfl, o_gT (i := 1) (by decide +kernel) rfl, o_gT (i := 425) (by decide +kernel) rfl⟩
abbrev mX11_isConsistent : o_M := (RX11, cX11_isConsistent, 1, some .boolean, [])
abbrev wX11_isConsistent : Cond := .code yX11_isConsistent cX11_isConsistent 1 (some .boolean)
theorem yw_X11_isConsistent : o_yw yX11_isConsistent wX11_isConsistent := ⟨o_gT (i := 427) (by decide +kernel) rfl, o_gT (i := 428) (by decide +kernel) rfl, o_gT (i := 1) (by decide +kernel) rfl, o_gT (i := 429) (by decide +kernel) rfl⟩
abbrev mX11_coinsAddUp : o_M := (RX11, cX11_coinsAddUp, 1, some .boolean, [])
abbrev wX11_coinsAddUp : Cond := .code yX11_coinsAddUp cX11_coinsAddUp 1 (some .boolean)
theorem yw_X11_coinsAddUp : o_yw yX11_coinsAddUp wX11_coinsAddUp := ⟨o_gT (i := 432) (by decide +kernel) rfl, o_gS (i := 2) (by decide +kernel) rfl, o_gT (i := 1) (by decide +kernel) rfl, o_gT (i := 433) (by decide +kernel) rfl⟩
abbrev mX9_sumOfCoins : o_M := (RX9, cX9_sumOfCoins, 3, some .int, [])
abbrev wX9_sumOfCoins : Cond := .code yX9_sumOfCoins cX9_sumOfCoins 3 (some .int)
theorem yw_X9_sumOfCoins : o_yw yX9_sumOfCoins wX9_sumOfCoins := ⟨o_gT (i := 435) (by decide +kernel) rfl, o_gT (i := 436) (by decide +kernel) rfl, o_gT (i := 3) (by decide +kernel) rfl, o_gT (i := 437) (by decide +kernel) rfl⟩
abbrev mX11_sharesAgree : o_M := (RX11, cX11_sharesAgree, 2, some .boolean, [])
abbrev wX11_sharesAgree : Cond := .code yX11_sharesAgree cX11_sharesAgree 2 (some .boolean)
theorem yw_X11_sharesAgree : o_yw yX11_sharesAgree wX11_sharesAgree := ⟨o_gT (i := 440) (by decide +kernel) rfl, o_gS (i := 3) (by decide +kernel) rfl, o_gT (i := 1) (by decide +kernel) rfl, o_gT (i := 441) (by decide +kernel) rfl⟩
abbrev mX3_shareByGiving : o_M := (RX3, cX3_shareByGiving, 4, some .int, [])
abbrev wX3_shareByGiving : Cond := .code yX3_shareByGiving cX3_shareByGiving 4 (some .int)
theorem yw_X3_shareByGiving : o_yw yX3_shareByGiving wX3_shareByGiving := ⟨o_gT (i := 443) (by decide +kernel) rfl, o_gT (i := 444) (by decide +kernel) rfl, o_gT (i := 8) (by decide +kernel) rfl, o_gT (i := 445) (by decide +kernel) rfl⟩
abbrev mX9_exists : o_M := (RX9, cX9_exists, 2, some .boolean, [])
abbrev wX9_exists : Cond := .code yX9_exists cX9_exists 2 (some .boolean)
theorem yw_X9_exists : o_yw yX9_exists wX9_exists := ⟨o_gT (i := 447) (by decide +kernel) rfl, o_gT (i := 448) (by decide +kernel) rfl, o_gT (i := 3) (by decide +kernel) rfl, o_gT (i := 449) (by decide +kernel) rfl⟩
abbrev mX3_divideRoundedDown : o_M := (RX3, cX3_divideRoundedDown, 5, none, [])
abbrev wX3_divideRoundedDown : Cond := .code yX3_divideRoundedDown cX3_divideRoundedDown 5 (none)
theorem yw_X3_divideRoundedDown : o_yw yX3_divideRoundedDown wX3_divideRoundedDown := ⟨o_gT (i := 452) (by decide +kernel) rfl, o_gS (i := 4) (by decide +kernel) rfl, o_gT (i := 8) (by decide +kernel) rfl, o_gT (i := 453) (by decide +kernel) rfl⟩
abbrev mX7_demandOf : o_M := (RX7, cX7_demandOf, 4, some .int, [])
abbrev wX7_demandOf : Cond := .code yX7_demandOf cX7_demandOf 4 (some .int)
theorem yw_X7_demandOf : o_yw yX7_demandOf wX7_demandOf := ⟨o_gT (i := 456) (by decide +kernel) rfl, o_gT (i := 457) (by decide +kernel) rfl, o_gT (i := 4) (by decide +kernel) rfl, o_gT (i := 458) (by decide +kernel) rfl⟩
abbrev mX7_isTakenBy : o_M := (RX7, cX7_isTakenBy, 3, some .boolean, [])
abbrev wX7_isTakenBy : Cond := .code yX7_isTakenBy cX7_isTakenBy 3 (some .boolean)
theorem yw_X7_isTakenBy : o_yw yX7_isTakenBy wX7_isTakenBy := ⟨o_gT (i := 460) (by decide +kernel) rfl, o_gT (i := 461) (by decide +kernel) rfl, o_gT (i := 4) (by decide +kernel) rfl, o_gT (i := 462) (by decide +kernel) rfl⟩
abbrev mX3_giveOneUnit : o_M := (RX3, cX3_giveOneUnit, 4, none, [])
abbrev wX3_giveOneUnit : Cond := .code yX3_giveOneUnit cX3_giveOneUnit 4 (none)
theorem yw_X3_giveOneUnit : o_yw yX3_giveOneUnit wX3_giveOneUnit := ⟨o_gT (i := 465) (by decide +kernel) rfl, o_gS (i := 5) (by decide +kernel) rfl, o_gT (i := 8) (by decide +kernel) rfl, o_gT (i := 466) (by decide +kernel) rfl⟩
abbrev mX3_shareByRemainderRank : o_M := (RX3, cX3_shareByRemainderRank, 3, some .int, [])
abbrev wX3_shareByRemainderRank : Cond := .code yX3_shareByRemainderRank cX3_shareByRemainderRank 3 (some .int)
theorem yw_X3_shareByRemainderRank : o_yw yX3_shareByRemainderRank wX3_shareByRemainderRank := ⟨o_gT (i := 468) (by decide +kernel) rfl, o_gT (i := 469) (by decide +kernel) rfl, o_gT (i := 8) (by decide +kernel) rfl, o_gT (i := 470) (by decide +kernel) rfl⟩
abbrev mX3_rankOf : o_M := (RX3, cX3_rankOf, 5, some .int, [])
abbrev wX3_rankOf : Cond := .code yX3_rankOf cX3_rankOf 5 (some .int)
theorem yw_X3_rankOf : o_yw yX3_rankOf wX3_rankOf := ⟨o_gT (i := 473) (by decide +kernel) rfl, o_gS (i := 6) (by decide +kernel) rfl, o_gT (i := 8) (by decide +kernel) rfl, o_gT (i := 474) (by decide +kernel) rfl⟩
abbrev mX11_sharesAddUp : o_M := (RX11, cX11_sharesAddUp, 3, some .boolean, [])
abbrev wX11_sharesAddUp : Cond := .code yX11_sharesAddUp cX11_sharesAddUp 3 (some .boolean)
theorem yw_X11_sharesAddUp : o_yw yX11_sharesAddUp wX11_sharesAddUp := ⟨o_gT (i := 477) (by decide +kernel) rfl, o_gS (i := 7) (by decide +kernel) rfl, o_gT (i := 1) (by decide +kernel) rfl, o_gT (i := 478) (by decide +kernel) rfl⟩
abbrev mX11_brightnessAgrees : o_M := (RX11, cX11_brightnessAgrees, 1, some .boolean, [])
abbrev wX11_brightnessAgrees : Cond := .code yX11_brightnessAgrees cX11_brightnessAgrees 1 (some .boolean)
theorem yw_X11_brightnessAgrees : o_yw yX11_brightnessAgrees wX11_brightnessAgrees := ⟨o_gT (i := 481) (by decide +kernel) rfl, o_gS (i := 8) (by decide +kernel) rfl, o_gT (i := 1) (by decide +kernel) rfl, o_gT (i := 482) (by decide +kernel) rfl⟩
abbrev mX11_requestsAreForLeasedLamps : o_M := (RX11, cX11_requestsAreForLeasedLamps, 2, some .boolean, [])
abbrev wX11_requestsAreForLeasedLamps : Cond := .code yX11_requestsAreForLeasedLamps cX11_requestsAreForLeasedLamps 2 (some .boolean)
theorem yw_X11_requestsAreForLeasedLamps : o_yw yX11_requestsAreForLeasedLamps wX11_requestsAreForLeasedLamps := ⟨o_gT (i := 485) (by decide +kernel) rfl, o_gS (i := 9) (by decide +kernel) rfl, o_gT (i := 1) (by decide +kernel) rfl, o_gT (i := 486) (by decide +kernel) rfl⟩
abbrev mX11_writeLamps : o_M := (RX11, cX11_writeLamps, 2, some .int, [])
abbrev wX11_writeLamps : Cond := .code yX11_writeLamps cX11_writeLamps 2 (some .int)
theorem yw_X11_writeLamps : o_yw yX11_writeLamps wX11_writeLamps := ⟨o_gT (i := 489) (by decide +kernel) rfl, o_gT (i := 490) (by decide +kernel) rfl, o_gT (i := 1) (by decide +kernel) rfl, o_gT (i := 491) (by decide +kernel) rfl⟩
abbrev mJ4_setLength_d00df : o_M := (RJ4, cJ4_setLength_d00df, 2, none, [])
abbrev wJ4_setLength_d00df : Cond := .code yJ4_setLength_d00df cJ4_setLength_d00df 2 (none)
theorem yw_J4_setLength_d00df : o_yw yJ4_setLength_d00df wJ4_setLength_d00df := ⟨o_gT (i := 493) (by decide +kernel) rfl, o_gT (i := 494) (by decide +kernel) rfl, o_gT (i := 14) (by decide +kernel) rfl, o_gT (i := 495) (by decide +kernel) rfl⟩
abbrev mJ5_setLength_d00df : o_M := (RJ5, cJ5_setLength_d00df, 2, none, [])
abbrev wJ5_setLength_d00df : Cond := .code yJ5_setLength_d00df cJ5_setLength_d00df 2 (none)
theorem yi_J5_setLength_d00df : o_yi yJ5_setLength_d00df wJ5_setLength_d00df := ⟨o_gT (i := 497) (by decide +kernel) rfl, o_gT (i := 13) (by decide +kernel) rfl, o_gT (i := 498) (by decide +kernel) rfl⟩
abbrev mJx7c733_init_d00df : o_M := (RJx7c733, cJx7c733_init_d00df, 2, none, [])
abbrev wJx7c733_init_d00df : Cond := .code yJx7c733_init_d00df cJx7c733_init_d00df 2 (none)
theorem yi_Jx7c733_init_d00df : o_yi yJx7c733_init_d00df wJx7c733_init_d00df := ⟨o_gT (i := 502) (by decide +kernel) rfl, o_gT (i := 33) (by decide +kernel) rfl, o_gT (i := 503) (by decide +kernel) rfl⟩
abbrev mJ4_append_15ec4 : o_M := (RJ4, cJ4_append_15ec4, 2, some (.object "java/lang/StringBuilder"), [])
abbrev wJ4_append_15ec4 : Cond := .code yJ4_append_15ec4 cJ4_append_15ec4 2 (some (.object "java/lang/StringBuilder"))
theorem yw_J4_append_15ec4 : o_yw yJ4_append_15ec4 wJ4_append_15ec4 := ⟨o_gT (i := 508) (by decide +kernel) rfl, o_gT (i := 509) (by decide +kernel) rfl, o_gT (i := 14) (by decide +kernel) rfl, o_gT (i := 510) (by decide +kernel) rfl⟩
abbrev mJ5_append_cf1ce : o_M := (RJ5, cJ5_append_cf1ce, 3, some (.object "java/lang/AbstractStringBuilder"), [])
abbrev wJ5_append_cf1ce : Cond := .code yJ5_append_cf1ce cJ5_append_cf1ce 3 (some (.object "java/lang/AbstractStringBuilder"))
theorem yi_J5_append_cf1ce : o_yi yJ5_append_cf1ce wJ5_append_cf1ce := ⟨o_gT (i := 512) (by decide +kernel) rfl, o_gT (i := 13) (by decide +kernel) rfl, o_gT (i := 513) (by decide +kernel) rfl⟩
abbrev mJ5_appendNull_278bc : o_M := (RJ5, cJ5_appendNull_278bc, 3, some (.object "java/lang/AbstractStringBuilder"), [])
abbrev wJ5_appendNull_278bc : Cond := .code yJ5_appendNull_278bc cJ5_appendNull_278bc 3 (some (.object "java/lang/AbstractStringBuilder"))
theorem yi_J5_appendNull_278bc : o_yi yJ5_appendNull_278bc wJ5_appendNull_278bc := ⟨o_gT (i := 516) (by decide +kernel) rfl, o_gT (i := 13) (by decide +kernel) rfl, o_gT (i := 517) (by decide +kernel) rfl⟩
abbrev mJ5_ensureCapacityInternal_d00df : o_M := (RJ5, cJ5_ensureCapacityInternal_d00df, 3, none, [])
abbrev wJ5_ensureCapacityInternal_d00df : Cond := .code yJ5_ensureCapacityInternal_d00df cJ5_ensureCapacityInternal_d00df 3 (none)
theorem yi_J5_ensureCapacityInternal_d00df : o_yi yJ5_ensureCapacityInternal_d00df wJ5_ensureCapacityInternal_d00df := ⟨o_gT (i := 520) (by decide +kernel) rfl, o_gT (i := 13) (by decide +kernel) rfl, o_gT (i := 521) (by decide +kernel) rfl⟩
abbrev mJ5_newCapacity_0f7a4 : o_M := (RJ5, cJ5_newCapacity_0f7a4, 6, some .int, [])
abbrev wJ5_newCapacity_0f7a4 : Cond := .code yJ5_newCapacity_0f7a4 cJ5_newCapacity_0f7a4 6 (some .int)
theorem yi_J5_newCapacity_0f7a4 : o_yi yJ5_newCapacity_0f7a4 wJ5_newCapacity_0f7a4 := ⟨o_gT (i := 524) (by decide +kernel) rfl, o_gT (i := 13) (by decide +kernel) rfl, o_gT (i := 525) (by decide +kernel) rfl⟩
abbrev mJ8_newLength_cabcc : o_M := (RJ8, cJ8_newLength_cabcc, 4, some .int, [])
abbrev wJ8_newLength_cabcc : Cond := .code yJ8_newLength_cabcc cJ8_newLength_cabcc 4 (some .int)
theorem ys_J8_newLength_cabcc : o_ys yJ8_newLength_cabcc wJ8_newLength_cabcc := ⟨o_gT (i := 527) (by decide +kernel) rfl, o_gT (i := 34) (by decide +kernel) rfl, o_gT (i := 528) (by decide +kernel) rfl⟩
abbrev mJ8_hugeLength_7cf53 : o_M := (RJ8, cJ8_hugeLength_7cf53, 3, some .int, [])
abbrev wJ8_hugeLength_7cf53 : Cond := .code yJ8_hugeLength_7cf53 cJ8_hugeLength_7cf53 3 (some .int)
theorem ys_J8_hugeLength_7cf53 : o_ys yJ8_hugeLength_7cf53 wJ8_hugeLength_7cf53 := ⟨o_gT (i := 532) (by decide +kernel) rfl, o_gT (i := 34) (by decide +kernel) rfl, o_gT (i := 533) (by decide +kernel) rfl⟩
abbrev mJ7_copyOf_9075b : o_M := (RJ7, cJ7_copyOf_9075b, 3, some (.array .byte), [])
abbrev wJ7_copyOf_9075b : Cond := .code yJ7_copyOf_9075b cJ7_copyOf_9075b 3 (some (.array .byte))
theorem ys_J7_copyOf_9075b : o_ys yJ7_copyOf_9075b wJ7_copyOf_9075b := ⟨o_gT (i := 536) (by decide +kernel) rfl, o_gT (i := 35) (by decide +kernel) rfl, o_gT (i := 537) (by decide +kernel) rfl⟩
abbrev mJ9_min_7cf53 : o_M := (RJ9, cJ9_min_7cf53, 2, some .int, [])
abbrev wJ9_min_7cf53 : Cond := .code yJ9_min_7cf53 cJ9_min_7cf53 2 (some .int)
theorem ys_J9_min_7cf53 : o_ys yJ9_min_7cf53 wJ9_min_7cf53 := ⟨o_gT (i := 546) (by decide +kernel) rfl, o_gT (i := 28) (by decide +kernel) rfl, o_gT (i := 547) (by decide +kernel) rfl⟩
abbrev mJ5_isLatin1_aae02 : o_M := (RJ5, cJ5_isLatin1_aae02, 1, some .boolean, [])
abbrev wJ5_isLatin1_aae02 : Cond := .code yJ5_isLatin1_aae02 cJ5_isLatin1_aae02 1 (some .boolean)
theorem yi_J5_isLatin1_aae02 : o_yi yJ5_isLatin1_aae02 wJ5_isLatin1_aae02 := ⟨o_gT (i := 552) (by decide +kernel) rfl, o_gT (i := 13) (by decide +kernel) rfl, o_gT (i := 555) (by decide +kernel) rfl⟩
abbrev mJ2_putCharsAt_cd4e5 : o_M := (RJ2, cJ2_putCharsAt_cd4e5, 7, some .int, [])
abbrev wJ2_putCharsAt_cd4e5 : Cond := .code yJ2_putCharsAt_cd4e5 cJ2_putCharsAt_cd4e5 7 (some .int)
theorem ys_J2_putCharsAt_cd4e5 : o_ys yJ2_putCharsAt_cd4e5 wJ2_putCharsAt_cd4e5 := ⟨o_gT (i := 557) (by decide +kernel) rfl, o_gT (i := 16) (by decide +kernel) rfl, o_gT (i := 558) (by decide +kernel) rfl⟩
abbrev mJ2_checkBoundsBeginEnd_d044e : o_M := (RJ2, cJ2_checkBoundsBeginEnd_d044e, 3, none, [])
abbrev wJ2_checkBoundsBeginEnd_d044e : Cond := .code yJ2_checkBoundsBeginEnd_d044e cJ2_checkBoundsBeginEnd_d044e 3 (none)
theorem ys_J2_checkBoundsBeginEnd_d044e : o_ys yJ2_checkBoundsBeginEnd_d044e wJ2_checkBoundsBeginEnd_d044e := ⟨o_gT (i := 560) (by decide +kernel) rfl, o_gT (i := 16) (by decide +kernel) rfl, o_gT (i := 561) (by decide +kernel) rfl⟩
abbrev mJ2_length_9d52b : o_M := (RJ2, cJ2_length_9d52b, 1, some .int, [])
abbrev wJ2_length_9d52b : Cond := .code yJ2_length_9d52b cJ2_length_9d52b 1 (some .int)
theorem ys_J2_length_9d52b : o_ys yJ2_length_9d52b wJ2_length_9d52b := ⟨o_gT (i := 563) (by decide +kernel) rfl, o_gT (i := 16) (by decide +kernel) rfl, o_gT (i := 564) (by decide +kernel) rfl⟩
abbrev mJ0_checkBoundsBeginEnd_23922 : o_M := (RJ0, cJ0_checkBoundsBeginEnd_23922, 3, none, [])
abbrev wJ0_checkBoundsBeginEnd_23922 : Cond := .code yJ0_checkBoundsBeginEnd_23922 cJ0_checkBoundsBeginEnd_23922 3 (none)
theorem ys_J0_checkBoundsBeginEnd_23922 : o_ys yJ0_checkBoundsBeginEnd_23922 wJ0_checkBoundsBeginEnd_23922 := ⟨o_gT (i := 566) (by decide +kernel) rfl, o_gT (i := 15) (by decide +kernel) rfl, o_gT (i := 567) (by decide +kernel) rfl⟩
abbrev mJ3_checkFromToIndex_8c36e : o_M := (RJ3, cJ3_checkFromToIndex_8c36e, 4, some .int, [])
abbrev wJ3_checkFromToIndex_8c36e : Cond := .code yJ3_checkFromToIndex_8c36e cJ3_checkFromToIndex_8c36e 4 (some .int)
theorem ys_J3_checkFromToIndex_8c36e : o_ys yJ3_checkFromToIndex_8c36e wJ3_checkFromToIndex_8c36e := ⟨o_gT (i := 571) (by decide +kernel) rfl, o_gT (i := 31) (by decide +kernel) rfl, o_gT (i := 572) (by decide +kernel) rfl⟩
abbrev mJ2_putChar_b72d1 : o_M := (RJ2, cJ2_putChar_b72d1, 3, none, [])
abbrev wJ2_putChar_b72d1 : Cond := .code yJ2_putChar_b72d1 cJ2_putChar_b72d1 3 (none)
theorem ys_J2_putChar_b72d1 : o_ys yJ2_putChar_b72d1 wJ2_putChar_b72d1 := ⟨o_gT (i := 574) (by decide +kernel) rfl, o_gT (i := 16) (by decide +kernel) rfl, o_gT (i := 575) (by decide +kernel) rfl⟩
abbrev mJ0_length_8abf5 : o_M := (RJ0, cJ0_length_8abf5, 1, some .int, [])
abbrev wJ0_length_8abf5 : Cond := .code yJ0_length_8abf5 cJ0_length_8abf5 1 (some .int)
theorem yw_J0_length_8abf5 : o_yw yJ0_length_8abf5 wJ0_length_8abf5 := ⟨o_gT (i := 583) (by decide +kernel) rfl, o_gT (i := 584) (by decide +kernel) rfl, o_gT (i := 15) (by decide +kernel) rfl, o_gT (i := 585) (by decide +kernel) rfl⟩
abbrev mJ0_coder_7d493 : o_M := (RJ0, cJ0_coder_7d493, 1, some .byte, [])
abbrev wJ0_coder_7d493 : Cond := .code yJ0_coder_7d493 cJ0_coder_7d493 1 (some .byte)
theorem yw_J0_coder_7d493 : o_yw yJ0_coder_7d493 wJ0_coder_7d493 := ⟨o_gT (i := 587) (by decide +kernel) rfl, o_gT (i := 588) (by decide +kernel) rfl, o_gT (i := 15) (by decide +kernel) rfl, o_gT (i := 589) (by decide +kernel) rfl⟩
abbrev mJ5_putStringAt_47b60 : o_M := (RJ5, cJ5_putStringAt_47b60, 3, none, [])
abbrev wJ5_putStringAt_47b60 : Cond := .code yJ5_putStringAt_47b60 cJ5_putStringAt_47b60 3 (none)
theorem yi_J5_putStringAt_47b60 : o_yi yJ5_putStringAt_47b60 wJ5_putStringAt_47b60 := ⟨o_gT (i := 593) (by decide +kernel) rfl, o_gT (i := 13) (by decide +kernel) rfl, o_gT (i := 594) (by decide +kernel) rfl⟩
abbrev mJ5_inflateIfNeededFor_a7421 : o_M := (RJ5, cJ5_inflateIfNeededFor_a7421, 2, none, [])
abbrev wJ5_inflateIfNeededFor_a7421 : Cond := .code yJ5_inflateIfNeededFor_a7421 cJ5_inflateIfNeededFor_a7421 2 (none)
theorem yi_J5_inflateIfNeededFor_a7421 : o_yi yJ5_inflateIfNeededFor_a7421 wJ5_inflateIfNeededFor_a7421 := ⟨o_gT (i := 597) (by decide +kernel) rfl, o_gT (i := 13) (by decide +kernel) rfl, o_gT (i := 598) (by decide +kernel) rfl⟩
abbrev mJ5_inflate_da8c8 : o_M := (RJ5, cJ5_inflate_da8c8, 2, none, [])
abbrev wJ5_inflate_da8c8 : Cond := .code yJ5_inflate_da8c8 cJ5_inflate_da8c8 2 (none)
theorem yi_J5_inflate_da8c8 : o_yi yJ5_inflate_da8c8 wJ5_inflate_da8c8 := ⟨o_gT (i := 602) (by decide +kernel) rfl, o_gT (i := 13) (by decide +kernel) rfl, o_gT (i := 603) (by decide +kernel) rfl⟩
abbrev mJ1_inflate_0e8fd : o_M := (RJ1, cJ1_inflate_0e8fd, 5, none, [])
abbrev wJ1_inflate_0e8fd : Cond := .code yJ1_inflate_0e8fd cJ1_inflate_0e8fd 5 (none)
theorem ys_J1_inflate_0e8fd : o_ys yJ1_inflate_0e8fd wJ1_inflate_0e8fd := ⟨o_gT (i := 605) (by decide +kernel) rfl, o_gT (i := 30) (by decide +kernel) rfl, o_gT (i := 606) (by decide +kernel) rfl⟩
abbrev mJ2_inflate_0e8fd : o_M := (RJ2, cJ2_inflate_0e8fd, 6, none, [])
abbrev wJ2_inflate_0e8fd : Cond := .code yJ2_inflate_0e8fd cJ2_inflate_0e8fd 6 (none)
theorem ys_J2_inflate_0e8fd : o_ys yJ2_inflate_0e8fd wJ2_inflate_0e8fd := ⟨o_gT (i := 608) (by decide +kernel) rfl, o_gT (i := 16) (by decide +kernel) rfl, o_gT (i := 609) (by decide +kernel) rfl⟩
abbrev mJ2_checkBoundsOffCount_d044e : o_M := (RJ2, cJ2_checkBoundsOffCount_d044e, 3, none, [])
abbrev wJ2_checkBoundsOffCount_d044e : Cond := .code yJ2_checkBoundsOffCount_d044e cJ2_checkBoundsOffCount_d044e 3 (none)
theorem ys_J2_checkBoundsOffCount_d044e : o_ys yJ2_checkBoundsOffCount_d044e wJ2_checkBoundsOffCount_d044e := ⟨o_gT (i := 611) (by decide +kernel) rfl, o_gT (i := 16) (by decide +kernel) rfl, o_gT (i := 612) (by decide +kernel) rfl⟩
abbrev mJ0_checkBoundsOffCount_cabcc : o_M := (RJ0, cJ0_checkBoundsOffCount_cabcc, 3, some .int, [])
abbrev wJ0_checkBoundsOffCount_cabcc : Cond := .code yJ0_checkBoundsOffCount_cabcc cJ0_checkBoundsOffCount_cabcc 3 (some .int)
theorem ys_J0_checkBoundsOffCount_cabcc : o_ys yJ0_checkBoundsOffCount_cabcc wJ0_checkBoundsOffCount_cabcc := ⟨o_gT (i := 614) (by decide +kernel) rfl, o_gT (i := 15) (by decide +kernel) rfl, o_gT (i := 615) (by decide +kernel) rfl⟩
abbrev mJ3_checkFromIndexSize_8c36e : o_M := (RJ3, cJ3_checkFromIndexSize_8c36e, 4, some .int, [])
abbrev wJ3_checkFromIndexSize_8c36e : Cond := .code yJ3_checkFromIndexSize_8c36e cJ3_checkFromIndexSize_8c36e 4 (some .int)
theorem ys_J3_checkFromIndexSize_8c36e : o_ys yJ3_checkFromIndexSize_8c36e wJ3_checkFromIndexSize_8c36e := ⟨o_gT (i := 617) (by decide +kernel) rfl, o_gT (i := 31) (by decide +kernel) rfl, o_gT (i := 618) (by decide +kernel) rfl⟩
abbrev mJ0_getBytes_840e7 : o_M := (RJ0, cJ0_getBytes_840e7, 4, none, [])
abbrev wJ0_getBytes_840e7 : Cond := .code yJ0_getBytes_840e7 cJ0_getBytes_840e7 4 (none)
theorem yw_J0_getBytes_840e7 : o_yw yJ0_getBytes_840e7 wJ0_getBytes_840e7 := ⟨o_gT (i := 620) (by decide +kernel) rfl, o_gT (i := 621) (by decide +kernel) rfl, o_gT (i := 15) (by decide +kernel) rfl, o_gT (i := 622) (by decide +kernel) rfl⟩
abbrev mJ4_append_bf812 : o_M := (RJ4, cJ4_append_bf812, 2, some (.object "java/lang/StringBuilder"), [])
abbrev wJ4_append_bf812 : Cond := .code yJ4_append_bf812 cJ4_append_bf812 2 (some (.object "java/lang/StringBuilder"))
theorem yw_J4_append_bf812 : o_yw yJ4_append_bf812 wJ4_append_bf812 := ⟨o_gT (i := 626) (by decide +kernel) rfl, o_gT (i := 627) (by decide +kernel) rfl, o_gT (i := 14) (by decide +kernel) rfl, o_gT (i := 628) (by decide +kernel) rfl⟩
abbrev mJ5_append_c97b9 : o_M := (RJ5, cJ5_append_c97b9, 4, some (.object "java/lang/AbstractStringBuilder"), [])
abbrev wJ5_append_c97b9 : Cond := .code yJ5_append_c97b9 cJ5_append_c97b9 4 (some (.object "java/lang/AbstractStringBuilder"))
theorem yi_J5_append_c97b9 : o_yi yJ5_append_c97b9 wJ5_append_c97b9 := ⟨o_gT (i := 630) (by decide +kernel) rfl, o_gT (i := 13) (by decide +kernel) rfl, o_gT (i := 631) (by decide +kernel) rfl⟩
abbrev mJ6_stringSize_0f7a4 : o_M := (RJ6, cJ6_stringSize_0f7a4, 4, some .int, [])
abbrev wJ6_stringSize_0f7a4 : Cond := .code yJ6_stringSize_0f7a4 cJ6_stringSize_0f7a4 4 (some .int)
theorem ys_J6_stringSize_0f7a4 : o_ys yJ6_stringSize_0f7a4 wJ6_stringSize_0f7a4 := ⟨o_gT (i := 633) (by decide +kernel) rfl, o_gT (i := 37) (by decide +kernel) rfl, o_gT (i := 634) (by decide +kernel) rfl⟩
abbrev mJ6_getChars_ba4f3 : o_M := (RJ6, cJ6_getChars_ba4f3, 7, some .int, [])
abbrev wJ6_getChars_ba4f3 : Cond := .code yJ6_getChars_ba4f3 cJ6_getChars_ba4f3 7 (some .int)
theorem ys_J6_getChars_ba4f3 : o_ys yJ6_getChars_ba4f3 wJ6_getChars_ba4f3 := ⟨o_gT (i := 636) (by decide +kernel) rfl, o_gT (i := 37) (by decide +kernel) rfl, o_gT (i := 637) (by decide +kernel) rfl⟩
abbrev mJ2_getChars_46870 : o_M := (RJ2, cJ2_getChars_46870, 5, some .int, [])
abbrev wJ2_getChars_46870 : Cond := .code yJ2_getChars_46870 cJ2_getChars_46870 5 (some .int)
theorem ys_J2_getChars_46870 : o_ys yJ2_getChars_46870 wJ2_getChars_46870 := ⟨o_gT (i := 643) (by decide +kernel) rfl, o_gT (i := 16) (by decide +kernel) rfl, o_gT (i := 644) (by decide +kernel) rfl⟩
abbrev mJ2_getChars_ba4f3 : o_M := (RJ2, cJ2_getChars_ba4f3, 7, some .int, [])
abbrev wJ2_getChars_ba4f3 : Cond := .code yJ2_getChars_ba4f3 cJ2_getChars_ba4f3 7 (some .int)
theorem ys_J2_getChars_ba4f3 : o_ys yJ2_getChars_ba4f3 wJ2_getChars_ba4f3 := ⟨o_gT (i := 646) (by decide +kernel) rfl, o_gT (i := 16) (by decide +kernel) rfl, o_gT (i := 647) (by decide +kernel) rfl⟩
abbrev mJ4_toString_0e30d : o_M := (RJ4, cJ4_toString_0e30d, 1, some (.object "java/lang/String"), [])
abbrev wJ4_toString_0e30d : Cond := .code yJ4_toString_0e30d cJ4_toString_0e30d 1 (some (.object "java/lang/String"))
theorem yw_J4_toString_0e30d : o_yw yJ4_toString_0e30d wJ4_toString_0e30d := ⟨o_gT (i := 651) (by decide +kernel) rfl, o_gT (i := 652) (by decide +kernel) rfl, o_gT (i := 14) (by decide +kernel) rfl, o_gT (i := 653) (by decide +kernel) rfl⟩
abbrev mJ0_init_81219 : o_M := (RJ0, cJ0_init_81219, 2, none, [])
abbrev wJ0_init_81219 : Cond := .code yJ0_init_81219 cJ0_init_81219 2 (none)
theorem yi_J0_init_81219 : o_yi yJ0_init_81219 wJ0_init_81219 := ⟨o_gT (i := 657) (by decide +kernel) rfl, o_gT (i := 15) (by decide +kernel) rfl, o_gT (i := 658) (by decide +kernel) rfl⟩
abbrev mJ0_init_db425 : o_M := (RJ0, cJ0_init_db425, 5, none, [])
abbrev wJ0_init_db425 : Cond := .code yJ0_init_db425 cJ0_init_db425 5 (none)
theorem yi_J0_init_db425 : o_yi yJ0_init_db425 wJ0_init_db425 := ⟨o_gT (i := 660) (by decide +kernel) rfl, o_gT (i := 15) (by decide +kernel) rfl, o_gT (i := 661) (by decide +kernel) rfl⟩
abbrev mJ5_getValue_6d5f1 : o_M := (RJ5, cJ5_getValue_6d5f1, 1, some (.array .byte), [])
abbrev wJ5_getValue_6d5f1 : Cond := .code yJ5_getValue_6d5f1 cJ5_getValue_6d5f1 1 (some (.array .byte))
theorem yi_J5_getValue_6d5f1 : o_yi yJ5_getValue_6d5f1 wJ5_getValue_6d5f1 := ⟨o_gT (i := 664) (by decide +kernel) rfl, o_gT (i := 13) (by decide +kernel) rfl, o_gT (i := 667) (by decide +kernel) rfl⟩
abbrev mJ4_length_8abf5 : o_M := (RJ4, cJ4_length_8abf5, 1, some .int, [])
abbrev wJ4_length_8abf5 : Cond := .code yJ4_length_8abf5 cJ4_length_8abf5 1 (some .int)
theorem yw_J4_length_8abf5 : o_yw yJ4_length_8abf5 wJ4_length_8abf5 := ⟨o_gT (i := 672) (by decide +kernel) rfl, o_gT (i := 2001) (by decide +kernel) rfl, o_gT (i := 14) (by decide +kernel) rfl, o_gT (i := 673) (by decide +kernel) rfl⟩
abbrev mJ5_length_8abf5 : o_M := (RJ5, cJ5_length_8abf5, 1, some .int, [])
abbrev wJ5_length_8abf5 : Cond := .code yJ5_length_8abf5 cJ5_length_8abf5 1 (some .int)
theorem yi_J5_length_8abf5 : o_yi yJ5_length_8abf5 wJ5_length_8abf5 := ⟨o_gT (i := 669) (by decide +kernel) rfl, o_gT (i := 13) (by decide +kernel) rfl, o_gT (i := 675) (by decide +kernel) rfl⟩
abbrev mJ7_copyOfRange_39247 : o_M := (RJ7, cJ7_copyOfRange_39247, 3, some (.array .byte), [])
abbrev wJ7_copyOfRange_39247 : Cond := .code yJ7_copyOfRange_39247 cJ7_copyOfRange_39247 3 (some (.array .byte))
theorem ys_J7_copyOfRange_39247 : o_ys yJ7_copyOfRange_39247 wJ7_copyOfRange_39247 := ⟨o_gT (i := 678) (by decide +kernel) rfl, o_gT (i := 35) (by decide +kernel) rfl, o_gT (i := 679) (by decide +kernel) rfl⟩
abbrev mJ7_copyOfRangeByte_39247 : o_M := (RJ7, cJ7_copyOfRangeByte_39247, 5, some (.array .byte), [])
abbrev wJ7_copyOfRangeByte_39247 : Cond := .code yJ7_copyOfRangeByte_39247 cJ7_copyOfRangeByte_39247 5 (some (.array .byte))
theorem ys_J7_copyOfRangeByte_39247 : o_ys yJ7_copyOfRangeByte_39247 wJ7_copyOfRangeByte_39247 := ⟨o_gT (i := 681) (by decide +kernel) rfl, o_gT (i := 35) (by decide +kernel) rfl, o_gT (i := 682) (by decide +kernel) rfl⟩
abbrev mJ7_checkLength_df160 : o_M := (RJ7, cJ7_checkLength_df160, 2, none, [])
abbrev wJ7_checkLength_df160 : Cond := .code yJ7_checkLength_df160 cJ7_checkLength_df160 2 (none)
theorem ys_J7_checkLength_df160 : o_ys yJ7_checkLength_df160 wJ7_checkLength_df160 := ⟨o_gT (i := 684) (by decide +kernel) rfl, o_gT (i := 35) (by decide +kernel) rfl, o_gT (i := 685) (by decide +kernel) rfl⟩
abbrev mJ2_compress_39247 : o_M := (RJ2, cJ2_compress_39247, 6, some (.array .byte), [])
abbrev wJ2_compress_39247 : Cond := .code yJ2_compress_39247 cJ2_compress_39247 6 (some (.array .byte))
theorem ys_J2_compress_39247 : o_ys yJ2_compress_39247 wJ2_compress_39247 := ⟨o_gT (i := 764) (by decide +kernel) rfl, o_gT (i := 16) (by decide +kernel) rfl, o_gT (i := 765) (by decide +kernel) rfl⟩
abbrev mJ2_compress_5af95 : o_M := (RJ2, cJ2_compress_5af95, 7, some .int, [])
abbrev wJ2_compress_5af95 : Cond := .code yJ2_compress_5af95 cJ2_compress_5af95 7 (some .int)
theorem ys_J2_compress_5af95 : o_ys yJ2_compress_5af95 wJ2_compress_5af95 := ⟨o_gT (i := 767) (by decide +kernel) rfl, o_gT (i := 16) (by decide +kernel) rfl, o_gT (i := 768) (by decide +kernel) rfl⟩
abbrev mJ2_getChar_3b067 : o_M := (RJ2, cJ2_getChar_3b067, 2, some .char, [])
abbrev wJ2_getChar_3b067 : Cond := .code yJ2_getChar_3b067 cJ2_getChar_3b067 2 (some .char)
theorem ys_J2_getChar_3b067 : o_ys yJ2_getChar_3b067 wJ2_getChar_3b067 := ⟨o_gT (i := 770) (by decide +kernel) rfl, o_gT (i := 16) (by decide +kernel) rfl, o_gT (i := 771) (by decide +kernel) rfl⟩
abbrev mJ2_coderFromArrayLen_85cad : o_M := (RJ2, cJ2_coderFromArrayLen_85cad, 2, some .byte, [])
abbrev wJ2_coderFromArrayLen_85cad : Cond := .code yJ2_coderFromArrayLen_85cad cJ2_coderFromArrayLen_85cad 2 (some .byte)
theorem ys_J2_coderFromArrayLen_85cad : o_ys yJ2_coderFromArrayLen_85cad wJ2_coderFromArrayLen_85cad := ⟨o_gT (i := 774) (by decide +kernel) rfl, o_gT (i := 16) (by decide +kernel) rfl, o_gT (i := 775) (by decide +kernel) rfl⟩
abbrev mJ1_fillNull_b72d1 : o_M := (RJ1, cJ1_fillNull_b72d1, 3, none, [])
abbrev wJ1_fillNull_b72d1 : Cond := .code yJ1_fillNull_b72d1 cJ1_fillNull_b72d1 3 (none)
theorem ys_J1_fillNull_b72d1 : o_ys yJ1_fillNull_b72d1 wJ1_fillNull_b72d1 := ⟨o_gT (i := 799) (by decide +kernel) rfl, o_gT (i := 30) (by decide +kernel) rfl, o_gT (i := 800) (by decide +kernel) rfl⟩
abbrev mJ7_fill_eb02e : o_M := (RJ7, cJ7_fill_eb02e, 5, none, [])
abbrev wJ7_fill_eb02e : Cond := .code yJ7_fill_eb02e cJ7_fill_eb02e 5 (none)
theorem ys_J7_fill_eb02e : o_ys yJ7_fill_eb02e wJ7_fill_eb02e := ⟨o_gT (i := 802) (by decide +kernel) rfl, o_gT (i := 35) (by decide +kernel) rfl, o_gT (i := 803) (by decide +kernel) rfl⟩
abbrev mJ7_rangeCheck_23922 : o_M := (RJ7, cJ7_rangeCheck_23922, 3, none, [])
abbrev wJ7_rangeCheck_23922 : Cond := .code yJ7_rangeCheck_23922 cJ7_rangeCheck_23922 3 (none)
theorem ys_J7_rangeCheck_23922 : o_ys yJ7_rangeCheck_23922 wJ7_rangeCheck_23922 := ⟨o_gT (i := 805) (by decide +kernel) rfl, o_gT (i := 35) (by decide +kernel) rfl, o_gT (i := 806) (by decide +kernel) rfl⟩
abbrev mJx00060_init_d00df : o_M := (RJx00060, cJx00060_init_d00df, 2, none, [])
abbrev wJx00060_init_d00df : Cond := .code yJx00060_init_d00df cJx00060_init_d00df 2 (none)
theorem yi_Jx00060_init_d00df : o_yi yJx00060_init_d00df wJx00060_init_d00df := ⟨o_gT (i := 822) (by decide +kernel) rfl, o_gT (i := 27) (by decide +kernel) rfl, o_gT (i := 823) (by decide +kernel) rfl⟩
abbrev mJ2_fillNull_b72d1 : o_M := (RJ2, cJ2_fillNull_b72d1, 3, none, [])
abbrev wJ2_fillNull_b72d1 : Cond := .code yJ2_fillNull_b72d1 cJ2_fillNull_b72d1 3 (none)
theorem ys_J2_fillNull_b72d1 : o_ys yJ2_fillNull_b72d1 wJ2_fillNull_b72d1 := ⟨o_gT (i := 834) (by decide +kernel) rfl, o_gT (i := 16) (by decide +kernel) rfl, o_gT (i := 835) (by decide +kernel) rfl⟩
abbrev mJ4_append_cf468 : o_M := (RJ4, cJ4_append_cf468, 2, some (.object "java/lang/StringBuilder"), [])
abbrev wJ4_append_cf468 : Cond := .code yJ4_append_cf468 cJ4_append_cf468 2 (some (.object "java/lang/StringBuilder"))
theorem yw_J4_append_cf468 : o_yw yJ4_append_cf468 wJ4_append_cf468 := ⟨o_gT (i := 838) (by decide +kernel) rfl, o_gT (i := 839) (by decide +kernel) rfl, o_gT (i := 14) (by decide +kernel) rfl, o_gT (i := 840) (by decide +kernel) rfl⟩
abbrev mJ5_append_3fe6f : o_M := (RJ5, cJ5_append_3fe6f, 2, some (.object "java/lang/AbstractStringBuilder"), [])
abbrev wJ5_append_3fe6f : Cond := .code yJ5_append_3fe6f cJ5_append_3fe6f 2 (some (.object "java/lang/AbstractStringBuilder"))
theorem yi_J5_append_3fe6f : o_yi yJ5_append_3fe6f wJ5_append_3fe6f := ⟨o_gT (i := 842) (by decide +kernel) rfl, o_gT (i := 13) (by decide +kernel) rfl, o_gT (i := 843) (by decide +kernel) rfl⟩
abbrev mJ1_canEncode_fc78d : o_M := (RJ1, cJ1_canEncode_fc78d, 1, some .boolean, [])
abbrev wJ1_canEncode_fc78d : Cond := .code yJ1_canEncode_fc78d cJ1_canEncode_fc78d 1 (some .boolean)
theorem ys_J1_canEncode_fc78d : o_ys yJ1_canEncode_fc78d wJ1_canEncode_fc78d := ⟨o_gT (i := 845) (by decide +kernel) rfl, o_gT (i := 30) (by decide +kernel) rfl, o_gT (i := 846) (by decide +kernel) rfl⟩
abbrev mJ2_putCharSB_b72d1 : o_M := (RJ2, cJ2_putCharSB_b72d1, 3, none, [])
abbrev wJ2_putCharSB_b72d1 : Cond := .code yJ2_putCharSB_b72d1 cJ2_putCharSB_b72d1 3 (none)
theorem ys_J2_putCharSB_b72d1 : o_ys yJ2_putCharSB_b72d1 wJ2_putCharSB_b72d1 := ⟨o_gT (i := 848) (by decide +kernel) rfl, o_gT (i := 16) (by decide +kernel) rfl, o_gT (i := 849) (by decide +kernel) rfl⟩
abbrev mJ2_checkIndex_2214a : o_M := (RJ2, cJ2_checkIndex_2214a, 2, none, [])
abbrev wJ2_checkIndex_2214a : Cond := .code yJ2_checkIndex_2214a cJ2_checkIndex_2214a 2 (none)
theorem ys_J2_checkIndex_2214a : o_ys yJ2_checkIndex_2214a wJ2_checkIndex_2214a := ⟨o_gT (i := 851) (by decide +kernel) rfl, o_gT (i := 16) (by decide +kernel) rfl, o_gT (i := 852) (by decide +kernel) rfl⟩
abbrev mJ0_checkIndex_df160 : o_M := (RJ0, cJ0_checkIndex_df160, 2, none, [])
abbrev wJ0_checkIndex_df160 : Cond := .code yJ0_checkIndex_df160 cJ0_checkIndex_df160 2 (none)
theorem ys_J0_checkIndex_df160 : o_ys yJ0_checkIndex_df160 wJ0_checkIndex_df160 := ⟨o_gT (i := 854) (by decide +kernel) rfl, o_gT (i := 15) (by decide +kernel) rfl, o_gT (i := 855) (by decide +kernel) rfl⟩
abbrev mJ3_checkIndex_8e157 : o_M := (RJ3, cJ3_checkIndex_8e157, 3, some .int, [])
abbrev wJ3_checkIndex_8e157 : Cond := .code yJ3_checkIndex_8e157 cJ3_checkIndex_8e157 3 (some .int)
theorem ys_J3_checkIndex_8e157 : o_ys yJ3_checkIndex_8e157 wJ3_checkIndex_8e157 := ⟨o_gT (i := 857) (by decide +kernel) rfl, o_gT (i := 31) (by decide +kernel) rfl, o_gT (i := 858) (by decide +kernel) rfl⟩
abbrev mX11_describe : o_M := (RX11, cX11_describe, 2, none, [])
abbrev wX11_describe : Cond := .code yX11_describe cX11_describe 2 (none)
theorem yw_X11_describe : o_yw yX11_describe wX11_describe := ⟨o_gT (i := 861) (by decide +kernel) rfl, o_gS (i := 11) (by decide +kernel) rfl, o_gT (i := 1) (by decide +kernel) rfl, o_gT (i := 862) (by decide +kernel) rfl⟩
abbrev mX8_positionOf : o_M := (RX8, cX8_positionOf, 3, some .int, [])
abbrev wX8_positionOf : Cond := .code yX8_positionOf cX8_positionOf 3 (some .int)
theorem yw_X8_positionOf : o_yw yX8_positionOf wX8_positionOf := ⟨o_gT (i := 865) (by decide +kernel) rfl, o_gT (i := 866) (by decide +kernel) rfl, o_gT (i := 5) (by decide +kernel) rfl, o_gT (i := 867) (by decide +kernel) rfl⟩
abbrev mX11_undoCount : o_M := (RX11, cX11_undoCount, 1, some .int, [])
abbrev wX11_undoCount : Cond := .code yX11_undoCount cX11_undoCount 1 (some .int)
theorem yw_X11_undoCount : o_yw yX11_undoCount wX11_undoCount := ⟨o_gT (i := 870) (by decide +kernel) rfl, o_gT (i := 871) (by decide +kernel) rfl, o_gT (i := 1) (by decide +kernel) rfl, o_gT (i := 872) (by decide +kernel) rfl⟩
abbrev mX11_save : o_M := (RX11, cX11_save, 1, some .int, [])
abbrev wX11_save : Cond := .code yX11_save cX11_save 1 (some .int)
theorem yw_X11_save : o_yw yX11_save wX11_save := ⟨o_gT (i := 874) (by decide +kernel) rfl, o_gT (i := 875) (by decide +kernel) rfl, o_gT (i := 1) (by decide +kernel) rfl, o_gT (i := 876) (by decide +kernel) rfl⟩
abbrev mX10_copyFrom : o_M := (RX10, cX10_copyFrom, 2, none, [])
abbrev wX10_copyFrom : Cond := .code yX10_copyFrom cX10_copyFrom 2 (none)
theorem yw_X10_copyFrom : o_yw yX10_copyFrom wX10_copyFrom := ⟨o_gT (i := 878) (by decide +kernel) rfl, o_gT (i := 879) (by decide +kernel) rfl, o_gT (i := 2) (by decide +kernel) rfl, o_gT (i := 880) (by decide +kernel) rfl⟩
abbrev mX9_copyFrom : o_M := (RX9, cX9_copyFrom, 3, none, [])
abbrev wX9_copyFrom : Cond := .code yX9_copyFrom cX9_copyFrom 3 (none)
theorem yw_X9_copyFrom : o_yw yX9_copyFrom wX9_copyFrom := ⟨o_gT (i := 882) (by decide +kernel) rfl, o_gT (i := 883) (by decide +kernel) rfl, o_gT (i := 3) (by decide +kernel) rfl, o_gT (i := 884) (by decide +kernel) rfl⟩
abbrev mX7_copyFrom : o_M := (RX7, cX7_copyFrom, 3, none, [])
abbrev wX7_copyFrom : Cond := .code yX7_copyFrom cX7_copyFrom 3 (none)
theorem yw_X7_copyFrom : o_yw yX7_copyFrom wX7_copyFrom := ⟨o_gT (i := 886) (by decide +kernel) rfl, o_gT (i := 887) (by decide +kernel) rfl, o_gT (i := 4) (by decide +kernel) rfl, o_gT (i := 888) (by decide +kernel) rfl⟩
abbrev mX8_copyFrom : o_M := (RX8, cX8_copyFrom, 3, none, [])
abbrev wX8_copyFrom : Cond := .code yX8_copyFrom cX8_copyFrom 3 (none)
theorem yw_X8_copyFrom : o_yw yX8_copyFrom wX8_copyFrom := ⟨o_gT (i := 890) (by decide +kernel) rfl, o_gT (i := 891) (by decide +kernel) rfl, o_gT (i := 5) (by decide +kernel) rfl, o_gT (i := 892) (by decide +kernel) rfl⟩
abbrev mL_addShip : o_M := (RL, cL_addShip, 3, some .int, [(0, 8, 11, 13)])
abbrev wL_addShip : Cond := .codeWith yL_addShip cL_addShip 3 (some .int) [(0, 8, 11, 13)]
theorem ys_L_addShip : o_ys yL_addShip wL_addShip := ⟨o_gT (i := 894) (by decide +kernel) rfl, o_gT (i := 0) (by decide +kernel) rfl, o_gT (i := 895) (by decide +kernel) rfl⟩
abbrev mX11_addShip : o_M := (RX11, cX11_addShip, 1, some .int, [])
abbrev wX11_addShip : Cond := .code yX11_addShip cX11_addShip 1 (some .int)
theorem yw_X11_addShip : o_yw yX11_addShip wX11_addShip := ⟨o_gT (i := 898) (by decide +kernel) rfl, o_gT (i := 899) (by decide +kernel) rfl, o_gT (i := 1) (by decide +kernel) rfl, o_gT (i := 900) (by decide +kernel) rfl⟩
abbrev mX10_faultOfNewShip : o_M := (RX10, cX10_faultOfNewShip, 1, some .char, [])
abbrev wX10_faultOfNewShip : Cond := .code yX10_faultOfNewShip cX10_faultOfNewShip 1 (some .char)
theorem yw_X10_faultOfNewShip : o_yw yX10_faultOfNewShip wX10_faultOfNewShip := ⟨o_gT (i := 902) (by decide +kernel) rfl, o_gT (i := 903) (by decide +kernel) rfl, o_gT (i := 2) (by decide +kernel) rfl, o_gT (i := 904) (by decide +kernel) rfl⟩
abbrev mX11_throwFor : o_M := (RX11, cX11_throwFor, 1, none, [])
abbrev wX11_throwFor : Cond := .code yX11_throwFor cX11_throwFor 1 (none)
theorem ys_X11_throwFor : o_ys yX11_throwFor wX11_throwFor := ⟨o_gT (i := 906) (by decide +kernel) rfl, o_gT (i := 1) (by decide +kernel) rfl, o_gT (i := 907) (by decide +kernel) rfl⟩
abbrev mX5_push : o_M := (RX5, cX5_push, 2, none, [])
abbrev wX5_push : Cond := .code yX5_push cX5_push 2 (none)
theorem yw_X5_push : o_yw yX5_push wX5_push := ⟨o_gT (i := 973) (by decide +kernel) rfl, o_gT (i := 974) (by decide +kernel) rfl, o_gT (i := 6) (by decide +kernel) rfl, o_gT (i := 975) (by decide +kernel) rfl⟩
abbrev mX9_append : o_M := (RX9, cX9_append, 2, some .int, [])
abbrev wX9_append : Cond := .code yX9_append cX9_append 2 (some .int)
theorem yw_X9_append : o_yw yX9_append wX9_append := ⟨o_gT (i := 978) (by decide +kernel) rfl, o_gT (i := 979) (by decide +kernel) rfl, o_gT (i := 3) (by decide +kernel) rfl, o_gT (i := 980) (by decide +kernel) rfl⟩
abbrev mL_addLamp : o_M := (RL, cL_addLamp, 4, some .int, [(0, 9, 12, 19), (0, 9, 15, 13)])
abbrev wL_addLamp : Cond := .codeWith yL_addLamp cL_addLamp 4 (some .int) [(0, 9, 12, 19), (0, 9, 15, 13)]
theorem ys_L_addLamp : o_ys yL_addLamp wL_addLamp := ⟨o_gT (i := 982) (by decide +kernel) rfl, o_gT (i := 0) (by decide +kernel) rfl, o_gT (i := 983) (by decide +kernel) rfl⟩
abbrev mX11_addLamp : o_M := (RX11, cX11_addLamp, 2, some .int, [])
abbrev wX11_addLamp : Cond := .code yX11_addLamp cX11_addLamp 2 (some .int)
theorem yw_X11_addLamp : o_yw yX11_addLamp wX11_addLamp := ⟨o_gT (i := 986) (by decide +kernel) rfl, o_gT (i := 987) (by decide +kernel) rfl, o_gT (i := 1) (by decide +kernel) rfl, o_gT (i := 988) (by decide +kernel) rfl⟩
abbrev mX10_faultOfNewLamp : o_M := (RX10, cX10_faultOfNewLamp, 2, some .char, [])
abbrev wX10_faultOfNewLamp : Cond := .code yX10_faultOfNewLamp cX10_faultOfNewLamp 2 (some .char)
theorem yw_X10_faultOfNewLamp : o_yw yX10_faultOfNewLamp wX10_faultOfNewLamp := ⟨o_gT (i := 990) (by decide +kernel) rfl, o_gT (i := 991) (by decide +kernel) rfl, o_gT (i := 2) (by decide +kernel) rfl, o_gT (i := 992) (by decide +kernel) rfl⟩
abbrev mX7_append : o_M := (RX7, cX7_append, 3, some .int, [])
abbrev wX7_append : Cond := .code yX7_append cX7_append 3 (some .int)
theorem yw_X7_append : o_yw yX7_append wX7_append := ⟨o_gT (i := 994) (by decide +kernel) rfl, o_gT (i := 995) (by decide +kernel) rfl, o_gT (i := 4) (by decide +kernel) rfl, o_gT (i := 996) (by decide +kernel) rfl⟩
abbrev mL_addOil : o_M := (RL, cL_addOil, 4, some .int, [(0, 9, 12, 19), (0, 9, 15, 13)])
abbrev wL_addOil : Cond := .codeWith yL_addOil cL_addOil 4 (some .int) [(0, 9, 12, 19), (0, 9, 15, 13)]
theorem ys_L_addOil : o_ys yL_addOil wL_addOil := ⟨o_gT (i := 998) (by decide +kernel) rfl, o_gT (i := 0) (by decide +kernel) rfl, o_gT (i := 999) (by decide +kernel) rfl⟩
abbrev mX11_addOil : o_M := (RX11, cX11_addOil, 2, some .int, [])
abbrev wX11_addOil : Cond := .code yX11_addOil cX11_addOil 2 (some .int)
theorem yw_X11_addOil : o_yw yX11_addOil wX11_addOil := ⟨o_gT (i := 1001) (by decide +kernel) rfl, o_gT (i := 1002) (by decide +kernel) rfl, o_gT (i := 1) (by decide +kernel) rfl, o_gT (i := 1003) (by decide +kernel) rfl⟩
abbrev mX10_faultOfNewOil : o_M := (RX10, cX10_faultOfNewOil, 2, some .char, [])
abbrev wX10_faultOfNewOil : Cond := .code yX10_faultOfNewOil cX10_faultOfNewOil 2 (some .char)
theorem yw_X10_faultOfNewOil : o_yw yX10_faultOfNewOil wX10_faultOfNewOil := ⟨o_gT (i := 1005) (by decide +kernel) rfl, o_gT (i := 1006) (by decide +kernel) rfl, o_gT (i := 2) (by decide +kernel) rfl, o_gT (i := 1007) (by decide +kernel) rfl⟩
abbrev mX10_fillUp : o_M := (RX10, cX10_fillUp, 2, some .int, [])
abbrev wX10_fillUp : Cond := .code yX10_fillUp cX10_fillUp 2 (some .int)
theorem yw_X10_fillUp : o_yw yX10_fillUp wX10_fillUp := ⟨o_gT (i := 1009) (by decide +kernel) rfl, o_gT (i := 1010) (by decide +kernel) rfl, o_gT (i := 2) (by decide +kernel) rfl, o_gT (i := 1011) (by decide +kernel) rfl⟩
abbrev mL_lease : o_M := (RL, cL_lease, 6, some .int, [(0, 12, 15, 28), (0, 12, 19, 19), (0, 12, 23, 13), (0, 12, 27, 30)])
abbrev wL_lease : Cond := .codeWith yL_lease cL_lease 6 (some .int) [(0, 12, 15, 28), (0, 12, 19, 19), (0, 12, 23, 13), (0, 12, 27, 30)]
theorem ys_L_lease : o_ys yL_lease wL_lease := ⟨o_gT (i := 1013) (by decide +kernel) rfl, o_gT (i := 0) (by decide +kernel) rfl, o_gT (i := 1014) (by decide +kernel) rfl⟩
abbrev mJx00060_init_a7421 : o_M := (RJx00060, cJx00060_init_a7421, 2, none, [])
abbrev wJx00060_init_a7421 : Cond := .code yJx00060_init_a7421 cJx00060_init_a7421 2 (none)
theorem yi_Jx00060_init_a7421 : o_yi yJx00060_init_a7421 wJx00060_init_a7421 := ⟨o_gT (i := 1016) (by decide +kernel) rfl, o_gT (i := 27) (by decide +kernel) rfl, o_gT (i := 1017) (by decide +kernel) rfl⟩
abbrev mX11_lease : o_M := (RX11, cX11_lease, 4, some .int, [])
abbrev wX11_lease : Cond := .code yX11_lease cX11_lease 4 (some .int)
theorem yw_X11_lease : o_yw yX11_lease wX11_lease := ⟨o_gT (i := 1020) (by decide +kernel) rfl, o_gT (i := 1021) (by decide +kernel) rfl, o_gT (i := 1) (by decide +kernel) rfl, o_gT (i := 1022) (by decide +kernel) rfl⟩
abbrev mX10_faultOfLease : o_M := (RX10, cX10_faultOfLease, 4, some .char, [])
abbrev wX10_faultOfLease : Cond := .code yX10_faultOfLease cX10_faultOfLease 4 (some .char)
theorem yw_X10_faultOfLease : o_yw yX10_faultOfLease wX10_faultOfLease := ⟨o_gT (i := 1024) (by decide +kernel) rfl, o_gT (i := 1025) (by decide +kernel) rfl, o_gT (i := 2) (by decide +kernel) rfl, o_gT (i := 1026) (by decide +kernel) rfl⟩
abbrev mX7_exists : o_M := (RX7, cX7_exists, 2, some .boolean, [])
abbrev wX7_exists : Cond := .code yX7_exists cX7_exists 2 (some .boolean)
theorem yw_X7_exists : o_yw yX7_exists wX7_exists := ⟨o_gT (i := 1029) (by decide +kernel) rfl, o_gT (i := 1030) (by decide +kernel) rfl, o_gT (i := 4) (by decide +kernel) rfl, o_gT (i := 1031) (by decide +kernel) rfl⟩
abbrev mX10_isNoLeaseTime : o_M := (RX10, cX10_isNoLeaseTime, 1, some .boolean, [])
abbrev wX10_isNoLeaseTime : Cond := .code yX10_isNoLeaseTime cX10_isNoLeaseTime 1 (some .boolean)
theorem ys_X10_isNoLeaseTime : o_ys yX10_isNoLeaseTime wX10_isNoLeaseTime := ⟨o_gT (i := 1033) (by decide +kernel) rfl, o_gT (i := 2) (by decide +kernel) rfl, o_gT (i := 1034) (by decide +kernel) rfl⟩
abbrev mX10_price : o_M := (RX10, cX10_price, 3, some .int, [])
abbrev wX10_price : Cond := .code yX10_price cX10_price 3 (some .int)
theorem yw_X10_price : o_yw yX10_price wX10_price := ⟨o_gT (i := 1038) (by decide +kernel) rfl, o_gS (i := 12) (by decide +kernel) rfl, o_gT (i := 2) (by decide +kernel) rfl, o_gT (i := 1039) (by decide +kernel) rfl⟩
abbrev mX9_canPay : o_M := (RX9, cX9_canPay, 3, some .boolean, [])
abbrev wX9_canPay : Cond := .code yX9_canPay cX9_canPay 3 (some .boolean)
theorem yw_X9_canPay : o_yw yX9_canPay wX9_canPay := ⟨o_gT (i := 1041) (by decide +kernel) rfl, o_gT (i := 1042) (by decide +kernel) rfl, o_gT (i := 3) (by decide +kernel) rfl, o_gT (i := 1043) (by decide +kernel) rfl⟩
abbrev mX10_leaseOut : o_M := (RX10, cX10_leaseOut, 4, some .int, [])
abbrev wX10_leaseOut : Cond := .code yX10_leaseOut cX10_leaseOut 4 (some .int)
theorem yw_X10_leaseOut : o_yw yX10_leaseOut wX10_leaseOut := ⟨o_gT (i := 1045) (by decide +kernel) rfl, o_gT (i := 1046) (by decide +kernel) rfl, o_gT (i := 2) (by decide +kernel) rfl, o_gT (i := 1047) (by decide +kernel) rfl⟩
abbrev mX10_payOffice : o_M := (RX10, cX10_payOffice, 3, none, [])
abbrev wX10_payOffice : Cond := .code yX10_payOffice cX10_payOffice 3 (none)
theorem yw_X10_payOffice : o_yw yX10_payOffice wX10_payOffice := ⟨o_gT (i := 1050) (by decide +kernel) rfl, o_gS (i := 13) (by decide +kernel) rfl, o_gT (i := 2) (by decide +kernel) rfl, o_gT (i := 1051) (by decide +kernel) rfl⟩
abbrev mL_requestRenewal : o_M := (RL, cL_requestRenewal, 5, some .int, [(0, 10, 13, 28), (0, 10, 17, 19), (0, 10, 21, 36), (0, 10, 25, 13)])
abbrev wL_requestRenewal : Cond := .codeWith yL_requestRenewal cL_requestRenewal 5 (some .int) [(0, 10, 13, 28), (0, 10, 17, 19), (0, 10, 21, 36), (0, 10, 25, 13)]
theorem ys_L_requestRenewal : o_ys yL_requestRenewal wL_requestRenewal := ⟨o_gT (i := 1053) (by decide +kernel) rfl, o_gT (i := 0) (by decide +kernel) rfl, o_gT (i := 1054) (by decide +kernel) rfl⟩
abbrev mX11_requestRenewal : o_M := (RX11, cX11_requestRenewal, 3, some .int, [])
abbrev wX11_requestRenewal : Cond := .code yX11_requestRenewal cX11_requestRenewal 3 (some .int)
theorem yw_X11_requestRenewal : o_yw yX11_requestRenewal wX11_requestRenewal := ⟨o_gT (i := 1057) (by decide +kernel) rfl, o_gT (i := 1058) (by decide +kernel) rfl, o_gT (i := 1) (by decide +kernel) rfl, o_gT (i := 1059) (by decide +kernel) rfl⟩
abbrev mX10_faultOfRequest : o_M := (RX10, cX10_faultOfRequest, 3, some .char, [])
abbrev wX10_faultOfRequest : Cond := .code yX10_faultOfRequest cX10_faultOfRequest 3 (some .char)
theorem yw_X10_faultOfRequest : o_yw yX10_faultOfRequest wX10_faultOfRequest := ⟨o_gT (i := 1061) (by decide +kernel) rfl, o_gT (i := 1062) (by decide +kernel) rfl, o_gT (i := 2) (by decide +kernel) rfl, o_gT (i := 1063) (by decide +kernel) rfl⟩
abbrev mX8_append : o_M := (RX8, cX8_append, 4, some .int, [])
abbrev wX8_append : Cond := .code yX8_append cX8_append 4 (some .int)
theorem yw_X8_append : o_yw yX8_append wX8_append := ⟨o_gT (i := 1066) (by decide +kernel) rfl, o_gT (i := 1067) (by decide +kernel) rfl, o_gT (i := 5) (by decide +kernel) rfl, o_gT (i := 1068) (by decide +kernel) rfl⟩
abbrev mL_giveUp : o_M := (RL, cL_giveUp, 4, some .int, [(0, 9, 12, 28), (0, 9, 15, 36)])
abbrev wL_giveUp : Cond := .codeWith yL_giveUp cL_giveUp 4 (some .int) [(0, 9, 12, 28), (0, 9, 15, 36)]
theorem ys_L_giveUp : o_ys yL_giveUp wL_giveUp := ⟨o_gT (i := 1070) (by decide +kernel) rfl, o_gT (i := 0) (by decide +kernel) rfl, o_gT (i := 1071) (by decide +kernel) rfl⟩
abbrev mX11_giveUp : o_M := (RX11, cX11_giveUp, 2, some .int, [])
abbrev wX11_giveUp : Cond := .code yX11_giveUp cX11_giveUp 2 (some .int)
theorem yw_X11_giveUp : o_yw yX11_giveUp wX11_giveUp := ⟨o_gT (i := 1073) (by decide +kernel) rfl, o_gT (i := 1074) (by decide +kernel) rfl, o_gT (i := 1) (by decide +kernel) rfl, o_gT (i := 1075) (by decide +kernel) rfl⟩
abbrev mX10_faultOfUnleased : o_M := (RX10, cX10_faultOfUnleased, 2, some .char, [])
abbrev wX10_faultOfUnleased : Cond := .code yX10_faultOfUnleased cX10_faultOfUnleased 2 (some .char)
theorem yw_X10_faultOfUnleased : o_yw yX10_faultOfUnleased wX10_faultOfUnleased := ⟨o_gT (i := 1077) (by decide +kernel) rfl, o_gT (i := 1078) (by decide +kernel) rfl, o_gT (i := 2) (by decide +kernel) rfl, o_gT (i := 1079) (by decide +kernel) rfl⟩
abbrev mX10_takeBack : o_M := (RX10, cX10_takeBack, 3, some .int, [])
abbrev wX10_takeBack : Cond := .code yX10_takeBack cX10_takeBack 3 (some .int)
theorem yw_X10_takeBack : o_yw yX10_takeBack wX10_takeBack := ⟨o_gT (i := 1081) (by decide +kernel) rfl, o_gT (i := 1082) (by decide +kernel) rfl, o_gT (i := 2) (by decide +kernel) rfl, o_gT (i := 1083) (by decide +kernel) rfl⟩
abbrev mX8_removeFor : o_M := (RX8, cX8_removeFor, 4, none, [])
abbrev wX8_removeFor : Cond := .code yX8_removeFor cX8_removeFor 4 (none)
theorem yw_X8_removeFor : o_yw yX8_removeFor wX8_removeFor := ⟨o_gT (i := 1085) (by decide +kernel) rfl, o_gT (i := 1086) (by decide +kernel) rfl, o_gT (i := 5) (by decide +kernel) rfl, o_gT (i := 1087) (by decide +kernel) rfl⟩
abbrev mL_passHours : o_M := (RL, cL_passHours, 4, some .int, [(0, 9, 12, 19)])
abbrev wL_passHours : Cond := .codeWith yL_passHours cL_passHours 4 (some .int) [(0, 9, 12, 19)]
theorem ys_L_passHours : o_ys yL_passHours wL_passHours := ⟨o_gT (i := 1089) (by decide +kernel) rfl, o_gT (i := 0) (by decide +kernel) rfl, o_gT (i := 1090) (by decide +kernel) rfl⟩
abbrev mX11_passHours : o_M := (RX11, cX11_passHours, 2, some .int, [])
abbrev wX11_passHours : Cond := .code yX11_passHours cX11_passHours 2 (some .int)
theorem yw_X11_passHours : o_yw yX11_passHours wX11_passHours := ⟨o_gT (i := 1092) (by decide +kernel) rfl, o_gT (i := 1093) (by decide +kernel) rfl, o_gT (i := 1) (by decide +kernel) rfl, o_gT (i := 1094) (by decide +kernel) rfl⟩
abbrev mX10_faultOfWait : o_M := (RX10, cX10_faultOfWait, 2, some .char, [])
abbrev wX10_faultOfWait : Cond := .code yX10_faultOfWait cX10_faultOfWait 2 (some .char)
theorem yw_X10_faultOfWait : o_yw yX10_faultOfWait wX10_faultOfWait := ⟨o_gT (i := 1096) (by decide +kernel) rfl, o_gT (i := 1097) (by decide +kernel) rfl, o_gT (i := 2) (by decide +kernel) rfl, o_gT (i := 1098) (by decide +kernel) rfl⟩
abbrev mX10_letPass : o_M := (RX10, cX10_letPass, 4, some .int, [])
abbrev wX10_letPass : Cond := .code yX10_letPass cX10_letPass 4 (some .int)
theorem yw_X10_letPass : o_yw yX10_letPass wX10_letPass := ⟨o_gT (i := 1100) (by decide +kernel) rfl, o_gT (i := 1101) (by decide +kernel) rfl, o_gT (i := 2) (by decide +kernel) rfl, o_gT (i := 1102) (by decide +kernel) rfl⟩
abbrev mX10_passOneHour : o_M := (RX10, cX10_passOneHour, 1, some .int, [])
abbrev wX10_passOneHour : Cond := .code yX10_passOneHour cX10_passOneHour 1 (some .int)
theorem yw_X10_passOneHour : o_yw yX10_passOneHour wX10_passOneHour := ⟨o_gT (i := 1105) (by decide +kernel) rfl, o_gS (i := 14) (by decide +kernel) rfl, o_gT (i := 2) (by decide +kernel) rfl, o_gT (i := 1106) (by decide +kernel) rfl⟩
abbrev mX10_processRequests : o_M := (RX10, cX10_processRequests, 4, none, [])
abbrev wX10_processRequests : Cond := .code yX10_processRequests cX10_processRequests 4 (none)
theorem yw_X10_processRequests : o_yw yX10_processRequests wX10_processRequests := ⟨o_gT (i := 1109) (by decide +kernel) rfl, o_gS (i := 15) (by decide +kernel) rfl, o_gT (i := 2) (by decide +kernel) rfl, o_gT (i := 1110) (by decide +kernel) rfl⟩
abbrev mX10_renewOrRefuse : o_M := (RX10, cX10_renewOrRefuse, 5, none, [])
abbrev wX10_renewOrRefuse : Cond := .code yX10_renewOrRefuse cX10_renewOrRefuse 5 (none)
theorem yw_X10_renewOrRefuse : o_yw yX10_renewOrRefuse wX10_renewOrRefuse := ⟨o_gT (i := 1113) (by decide +kernel) rfl, o_gS (i := 16) (by decide +kernel) rfl, o_gT (i := 2) (by decide +kernel) rfl, o_gT (i := 1114) (by decide +kernel) rfl⟩
abbrev mX8_clear : o_M := (RX8, cX8_clear, 1, none, [])
abbrev wX8_clear : Cond := .code yX8_clear cX8_clear 1 (none)
theorem yw_X8_clear : o_yw yX8_clear wX8_clear := ⟨o_gT (i := 1116) (by decide +kernel) rfl, o_gT (i := 1117) (by decide +kernel) rfl, o_gT (i := 5) (by decide +kernel) rfl, o_gT (i := 1118) (by decide +kernel) rfl⟩
abbrev mX10_burn : o_M := (RX10, cX10_burn, 2, none, [])
abbrev wX10_burn : Cond := .code yX10_burn cX10_burn 2 (none)
theorem yw_X10_burn : o_yw yX10_burn wX10_burn := ⟨o_gT (i := 1121) (by decide +kernel) rfl, o_gS (i := 17) (by decide +kernel) rfl, o_gT (i := 2) (by decide +kernel) rfl, o_gT (i := 1122) (by decide +kernel) rfl⟩
abbrev mX10_fineDarkShips : o_M := (RX10, cX10_fineDarkShips, 4, none, [])
abbrev wX10_fineDarkShips : Cond := .code yX10_fineDarkShips cX10_fineDarkShips 4 (none)
theorem yw_X10_fineDarkShips : o_yw yX10_fineDarkShips wX10_fineDarkShips := ⟨o_gT (i := 1125) (by decide +kernel) rfl, o_gS (i := 18) (by decide +kernel) rfl, o_gT (i := 2) (by decide +kernel) rfl, o_gT (i := 1126) (by decide +kernel) rfl⟩
abbrev mX7_countOf : o_M := (RX7, cX7_countOf, 4, some .int, [])
abbrev wX7_countOf : Cond := .code yX7_countOf cX7_countOf 4 (some .int)
theorem yw_X7_countOf : o_yw yX7_countOf wX7_countOf := ⟨o_gT (i := 1128) (by decide +kernel) rfl, o_gT (i := 1129) (by decide +kernel) rfl, o_gT (i := 4) (by decide +kernel) rfl, o_gT (i := 1130) (by decide +kernel) rfl⟩
abbrev mX7_anyBrightOf : o_M := (RX7, cX7_anyBrightOf, 3, some .boolean, [])
abbrev wX7_anyBrightOf : Cond := .code yX7_anyBrightOf cX7_anyBrightOf 3 (some .boolean)
theorem yw_X7_anyBrightOf : o_yw yX7_anyBrightOf wX7_anyBrightOf := ⟨o_gT (i := 1132) (by decide +kernel) rfl, o_gT (i := 1133) (by decide +kernel) rfl, o_gT (i := 4) (by decide +kernel) rfl, o_gT (i := 1134) (by decide +kernel) rfl⟩
abbrev mX10_endLeases : o_M := (RX10, cX10_endLeases, 3, some .int, [])
abbrev wX10_endLeases : Cond := .code yX10_endLeases cX10_endLeases 3 (some .int)
theorem yw_X10_endLeases : o_yw yX10_endLeases wX10_endLeases := ⟨o_gT (i := 1138) (by decide +kernel) rfl, o_gS (i := 19) (by decide +kernel) rfl, o_gT (i := 2) (by decide +kernel) rfl, o_gT (i := 1139) (by decide +kernel) rfl⟩
abbrev mL_coins : o_M := (RL, cL_coins, 4, some .int, [(0, 9, 12, 28)])
abbrev wL_coins : Cond := .codeWith yL_coins cL_coins 4 (some .int) [(0, 9, 12, 28)]
theorem ys_L_coins : o_ys yL_coins wL_coins := ⟨o_gT (i := 1142) (by decide +kernel) rfl, o_gT (i := 0) (by decide +kernel) rfl, o_gT (i := 1143) (by decide +kernel) rfl⟩
abbrev mX11_coins : o_M := (RX11, cX11_coins, 2, some .int, [])
abbrev wX11_coins : Cond := .code yX11_coins cX11_coins 2 (some .int)
theorem yw_X11_coins : o_yw yX11_coins wX11_coins := ⟨o_gT (i := 1145) (by decide +kernel) rfl, o_gT (i := 1146) (by decide +kernel) rfl, o_gT (i := 1) (by decide +kernel) rfl, o_gT (i := 1147) (by decide +kernel) rfl⟩
abbrev mX11_throwUnlessShip : o_M := (RX11, cX11_throwUnlessShip, 2, none, [])
abbrev wX11_throwUnlessShip : Cond := .code yX11_throwUnlessShip cX11_throwUnlessShip 2 (none)
theorem yw_X11_throwUnlessShip : o_yw yX11_throwUnlessShip wX11_throwUnlessShip := ⟨o_gT (i := 1150) (by decide +kernel) rfl, o_gS (i := 20) (by decide +kernel) rfl, o_gT (i := 1) (by decide +kernel) rfl, o_gT (i := 1151) (by decide +kernel) rfl⟩
abbrev mL_finesPaid : o_M := (RL, cL_finesPaid, 4, some .int, [(0, 9, 12, 28)])
abbrev wL_finesPaid : Cond := .codeWith yL_finesPaid cL_finesPaid 4 (some .int) [(0, 9, 12, 28)]
theorem ys_L_finesPaid : o_ys yL_finesPaid wL_finesPaid := ⟨o_gT (i := 1155) (by decide +kernel) rfl, o_gT (i := 0) (by decide +kernel) rfl, o_gT (i := 1156) (by decide +kernel) rfl⟩
abbrev mX11_finesPaid : o_M := (RX11, cX11_finesPaid, 2, some .int, [])
abbrev wX11_finesPaid : Cond := .code yX11_finesPaid cX11_finesPaid 2 (some .int)
theorem yw_X11_finesPaid : o_yw yX11_finesPaid wX11_finesPaid := ⟨o_gT (i := 1158) (by decide +kernel) rfl, o_gT (i := 1159) (by decide +kernel) rfl, o_gT (i := 1) (by decide +kernel) rfl, o_gT (i := 1160) (by decide +kernel) rfl⟩
abbrev mL_darkHours : o_M := (RL, cL_darkHours, 4, some .int, [(0, 9, 12, 28)])
abbrev wL_darkHours : Cond := .codeWith yL_darkHours cL_darkHours 4 (some .int) [(0, 9, 12, 28)]
theorem ys_L_darkHours : o_ys yL_darkHours wL_darkHours := ⟨o_gT (i := 1162) (by decide +kernel) rfl, o_gT (i := 0) (by decide +kernel) rfl, o_gT (i := 1163) (by decide +kernel) rfl⟩
abbrev mX11_darkHours : o_M := (RX11, cX11_darkHours, 2, some .int, [])
abbrev wX11_darkHours : Cond := .code yX11_darkHours cX11_darkHours 2 (some .int)
theorem yw_X11_darkHours : o_yw yX11_darkHours wX11_darkHours := ⟨o_gT (i := 1165) (by decide +kernel) rfl, o_gT (i := 1166) (by decide +kernel) rfl, o_gT (i := 1) (by decide +kernel) rfl, o_gT (i := 1167) (by decide +kernel) rfl⟩
abbrev mL_demand : o_M := (RL, cL_demand, 4, some .int, [(0, 9, 12, 28)])
abbrev wL_demand : Cond := .codeWith yL_demand cL_demand 4 (some .int) [(0, 9, 12, 28)]
theorem ys_L_demand : o_ys yL_demand wL_demand := ⟨o_gT (i := 1169) (by decide +kernel) rfl, o_gT (i := 0) (by decide +kernel) rfl, o_gT (i := 1170) (by decide +kernel) rfl⟩
abbrev mX11_demand : o_M := (RX11, cX11_demand, 2, some .int, [])
abbrev wX11_demand : Cond := .code yX11_demand cX11_demand 2 (some .int)
theorem yw_X11_demand : o_yw yX11_demand wX11_demand := ⟨o_gT (i := 1172) (by decide +kernel) rfl, o_gT (i := 1173) (by decide +kernel) rfl, o_gT (i := 1) (by decide +kernel) rfl, o_gT (i := 1174) (by decide +kernel) rfl⟩
abbrev mL_leasesOf : o_M := (RL, cL_leasesOf, 4, some .int, [(0, 9, 12, 28)])
abbrev wL_leasesOf : Cond := .codeWith yL_leasesOf cL_leasesOf 4 (some .int) [(0, 9, 12, 28)]
theorem ys_L_leasesOf : o_ys yL_leasesOf wL_leasesOf := ⟨o_gT (i := 1177) (by decide +kernel) rfl, o_gT (i := 0) (by decide +kernel) rfl, o_gT (i := 1178) (by decide +kernel) rfl⟩
abbrev mX11_leasesOf : o_M := (RX11, cX11_leasesOf, 2, some .int, [])
abbrev wX11_leasesOf : Cond := .code yX11_leasesOf cX11_leasesOf 2 (some .int)
theorem yw_X11_leasesOf : o_yw yX11_leasesOf wX11_leasesOf := ⟨o_gT (i := 1180) (by decide +kernel) rfl, o_gT (i := 1181) (by decide +kernel) rfl, o_gT (i := 1) (by decide +kernel) rfl, o_gT (i := 1182) (by decide +kernel) rfl⟩
abbrev mL_level : o_M := (RL, cL_level, 4, some .int, [(0, 9, 12, 28)])
abbrev wL_level : Cond := .codeWith yL_level cL_level 4 (some .int) [(0, 9, 12, 28)]
theorem ys_L_level : o_ys yL_level wL_level := ⟨o_gT (i := 1185) (by decide +kernel) rfl, o_gT (i := 0) (by decide +kernel) rfl, o_gT (i := 1186) (by decide +kernel) rfl⟩
abbrev mX11_level : o_M := (RX11, cX11_level, 2, some .int, [])
abbrev wX11_level : Cond := .code yX11_level cX11_level 2 (some .int)
theorem yw_X11_level : o_yw yX11_level wX11_level := ⟨o_gT (i := 1188) (by decide +kernel) rfl, o_gT (i := 1189) (by decide +kernel) rfl, o_gT (i := 1) (by decide +kernel) rfl, o_gT (i := 1190) (by decide +kernel) rfl⟩
abbrev mX11_throwUnlessLamp : o_M := (RX11, cX11_throwUnlessLamp, 2, none, [])
abbrev wX11_throwUnlessLamp : Cond := .code yX11_throwUnlessLamp cX11_throwUnlessLamp 2 (none)
theorem yw_X11_throwUnlessLamp : o_yw yX11_throwUnlessLamp wX11_throwUnlessLamp := ⟨o_gT (i := 1193) (by decide +kernel) rfl, o_gS (i := 21) (by decide +kernel) rfl, o_gT (i := 1) (by decide +kernel) rfl, o_gT (i := 1194) (by decide +kernel) rfl⟩
abbrev mL_isLeased : o_M := (RL, cL_isLeased, 4, some .int, [(0, 16, 19, 28)])
abbrev wL_isLeased : Cond := .codeWith yL_isLeased cL_isLeased 4 (some .int) [(0, 16, 19, 28)]
theorem ys_L_isLeased : o_ys yL_isLeased wL_isLeased := ⟨o_gT (i := 1198) (by decide +kernel) rfl, o_gT (i := 0) (by decide +kernel) rfl, o_gT (i := 1199) (by decide +kernel) rfl⟩
abbrev mX11_isLeased : o_M := (RX11, cX11_isLeased, 2, some .boolean, [])
abbrev wX11_isLeased : Cond := .code yX11_isLeased cX11_isLeased 2 (some .boolean)
theorem yw_X11_isLeased : o_yw yX11_isLeased wX11_isLeased := ⟨o_gT (i := 1201) (by decide +kernel) rfl, o_gT (i := 1202) (by decide +kernel) rfl, o_gT (i := 1) (by decide +kernel) rfl, o_gT (i := 1203) (by decide +kernel) rfl⟩
abbrev mL_lessee : o_M := (RL, cL_lessee, 4, some .int, [(0, 9, 12, 28), (0, 9, 15, 36)])
abbrev wL_lessee : Cond := .codeWith yL_lessee cL_lessee 4 (some .int) [(0, 9, 12, 28), (0, 9, 15, 36)]
theorem ys_L_lessee : o_ys yL_lessee wL_lessee := ⟨o_gT (i := 1205) (by decide +kernel) rfl, o_gT (i := 0) (by decide +kernel) rfl, o_gT (i := 1206) (by decide +kernel) rfl⟩
abbrev mX11_lessee : o_M := (RX11, cX11_lessee, 2, some .int, [])
abbrev wX11_lessee : Cond := .code yX11_lessee cX11_lessee 2 (some .int)
theorem yw_X11_lessee : o_yw yX11_lessee wX11_lessee := ⟨o_gT (i := 1208) (by decide +kernel) rfl, o_gT (i := 1209) (by decide +kernel) rfl, o_gT (i := 1) (by decide +kernel) rfl, o_gT (i := 1210) (by decide +kernel) rfl⟩
abbrev mL_endHour : o_M := (RL, cL_endHour, 4, some .int, [(0, 9, 12, 28), (0, 9, 15, 36)])
abbrev wL_endHour : Cond := .codeWith yL_endHour cL_endHour 4 (some .int) [(0, 9, 12, 28), (0, 9, 15, 36)]
theorem ys_L_endHour : o_ys yL_endHour wL_endHour := ⟨o_gT (i := 1212) (by decide +kernel) rfl, o_gT (i := 0) (by decide +kernel) rfl, o_gT (i := 1213) (by decide +kernel) rfl⟩
abbrev mX11_endHour : o_M := (RX11, cX11_endHour, 2, some .int, [])
abbrev wX11_endHour : Cond := .code yX11_endHour cX11_endHour 2 (some .int)
theorem yw_X11_endHour : o_yw yX11_endHour wX11_endHour := ⟨o_gT (i := 1215) (by decide +kernel) rfl, o_gT (i := 1216) (by decide +kernel) rfl, o_gT (i := 1) (by decide +kernel) rfl, o_gT (i := 1217) (by decide +kernel) rfl⟩
abbrev mL_brightHours : o_M := (RL, cL_brightHours, 4, some .int, [(0, 9, 12, 28)])
abbrev wL_brightHours : Cond := .codeWith yL_brightHours cL_brightHours 4 (some .int) [(0, 9, 12, 28)]
theorem ys_L_brightHours : o_ys yL_brightHours wL_brightHours := ⟨o_gT (i := 1219) (by decide +kernel) rfl, o_gT (i := 0) (by decide +kernel) rfl, o_gT (i := 1220) (by decide +kernel) rfl⟩
abbrev mX11_brightHours : o_M := (RX11, cX11_brightHours, 2, some .int, [])
abbrev wX11_brightHours : Cond := .code yX11_brightHours cX11_brightHours 2 (some .int)
theorem yw_X11_brightHours : o_yw yX11_brightHours wX11_brightHours := ⟨o_gT (i := 1222) (by decide +kernel) rfl, o_gT (i := 1223) (by decide +kernel) rfl, o_gT (i := 1) (by decide +kernel) rfl, o_gT (i := 1224) (by decide +kernel) rfl⟩
abbrev mL_wasBright : o_M := (RL, cL_wasBright, 4, some .int, [(0, 16, 19, 28)])
abbrev wL_wasBright : Cond := .codeWith yL_wasBright cL_wasBright 4 (some .int) [(0, 16, 19, 28)]
theorem ys_L_wasBright : o_ys yL_wasBright wL_wasBright := ⟨o_gT (i := 1226) (by decide +kernel) rfl, o_gT (i := 0) (by decide +kernel) rfl, o_gT (i := 1227) (by decide +kernel) rfl⟩
abbrev mX11_wasBright : o_M := (RX11, cX11_wasBright, 2, some .boolean, [])
abbrev wX11_wasBright : Cond := .code yX11_wasBright cX11_wasBright 2 (some .boolean)
theorem yw_X11_wasBright : o_yw yX11_wasBright wX11_wasBright := ⟨o_gT (i := 1229) (by decide +kernel) rfl, o_gT (i := 1230) (by decide +kernel) rfl, o_gT (i := 1) (by decide +kernel) rfl, o_gT (i := 1231) (by decide +kernel) rfl⟩
abbrev mL_hoursOfOil : o_M := (RL, cL_hoursOfOil, 3, some .int, [(0, 8, 11, 36)])
abbrev wL_hoursOfOil : Cond := .codeWith yL_hoursOfOil cL_hoursOfOil 3 (some .int) [(0, 8, 11, 36)]
theorem ys_L_hoursOfOil : o_ys yL_hoursOfOil wL_hoursOfOil := ⟨o_gT (i := 1233) (by decide +kernel) rfl, o_gT (i := 0) (by decide +kernel) rfl, o_gT (i := 1234) (by decide +kernel) rfl⟩
abbrev mX11_hoursOfOil : o_M := (RX11, cX11_hoursOfOil, 2, some .int, [])
abbrev wX11_hoursOfOil : Cond := .code yX11_hoursOfOil cX11_hoursOfOil 2 (some .int)
theorem yw_X11_hoursOfOil : o_yw yX11_hoursOfOil wX11_hoursOfOil := ⟨o_gT (i := 1236) (by decide +kernel) rfl, o_gT (i := 1237) (by decide +kernel) rfl, o_gT (i := 1) (by decide +kernel) rfl, o_gT (i := 1238) (by decide +kernel) rfl⟩
abbrev mX4_hoursByPassing : o_M := (RX4, cX4_hoursByPassing, 5, some .int, [])
abbrev wX4_hoursByPassing : Cond := .code yX4_hoursByPassing cX4_hoursByPassing 5 (some .int)
theorem yw_X4_hoursByPassing : o_yw yX4_hoursByPassing wX4_hoursByPassing := ⟨o_gT (i := 1240) (by decide +kernel) rfl, o_gT (i := 1241) (by decide +kernel) rfl, o_gT (i := 7) (by decide +kernel) rfl, o_gT (i := 1242) (by decide +kernel) rfl⟩
abbrev mX7_demandAfter : o_M := (RX7, cX7_demandAfter, 4, some .int, [])
abbrev wX7_demandAfter : Cond := .code yX7_demandAfter cX7_demandAfter 4 (some .int)
theorem yw_X7_demandAfter : o_yw yX7_demandAfter wX7_demandAfter := ⟨o_gT (i := 1244) (by decide +kernel) rfl, o_gT (i := 1245) (by decide +kernel) rfl, o_gT (i := 4) (by decide +kernel) rfl, o_gT (i := 1246) (by decide +kernel) rfl⟩
abbrev mX11_throwIfNothing : o_M := (RX11, cX11_throwIfNothing, 1, none, [])
abbrev wX11_throwIfNothing : Cond := .code yX11_throwIfNothing cX11_throwIfNothing 1 (none)
theorem ys_X11_throwIfNothing : o_ys yX11_throwIfNothing wX11_throwIfNothing := ⟨o_gT (i := 1248) (by decide +kernel) rfl, o_gT (i := 1) (by decide +kernel) rfl, o_gT (i := 1249) (by decide +kernel) rfl⟩
abbrev mL_hoursOfOilByEnds : o_M := (RL, cL_hoursOfOilByEnds, 3, some .int, [(0, 8, 11, 36)])
abbrev wL_hoursOfOilByEnds : Cond := .codeWith yL_hoursOfOilByEnds cL_hoursOfOilByEnds 3 (some .int) [(0, 8, 11, 36)]
theorem ys_L_hoursOfOilByEnds : o_ys yL_hoursOfOilByEnds wL_hoursOfOilByEnds := ⟨o_gT (i := 1252) (by decide +kernel) rfl, o_gT (i := 0) (by decide +kernel) rfl, o_gT (i := 1253) (by decide +kernel) rfl⟩
abbrev mX11_hoursOfOilByEnds : o_M := (RX11, cX11_hoursOfOilByEnds, 2, some .int, [])
abbrev wX11_hoursOfOilByEnds : Cond := .code yX11_hoursOfOilByEnds cX11_hoursOfOilByEnds 2 (some .int)
theorem yw_X11_hoursOfOilByEnds : o_yw yX11_hoursOfOilByEnds wX11_hoursOfOilByEnds := ⟨o_gT (i := 1255) (by decide +kernel) rfl, o_gT (i := 1256) (by decide +kernel) rfl, o_gT (i := 1) (by decide +kernel) rfl, o_gT (i := 1257) (by decide +kernel) rfl⟩
abbrev mX4_hoursByEndHours : o_M := (RX4, cX4_hoursByEndHours, 7, some .int, [])
abbrev wX4_hoursByEndHours : Cond := .code yX4_hoursByEndHours cX4_hoursByEndHours 7 (some .int)
theorem yw_X4_hoursByEndHours : o_yw yX4_hoursByEndHours wX4_hoursByEndHours := ⟨o_gT (i := 1259) (by decide +kernel) rfl, o_gT (i := 1260) (by decide +kernel) rfl, o_gT (i := 7) (by decide +kernel) rfl, o_gT (i := 1261) (by decide +kernel) rfl⟩
abbrev mX7_firstEndAfter : o_M := (RX7, cX7_firstEndAfter, 4, some .int, [])
abbrev wX7_firstEndAfter : Cond := .code yX7_firstEndAfter cX7_firstEndAfter 4 (some .int)
theorem yw_X7_firstEndAfter : o_yw yX7_firstEndAfter wX7_firstEndAfter := ⟨o_gT (i := 1263) (by decide +kernel) rfl, o_gT (i := 1264) (by decide +kernel) rfl, o_gT (i := 4) (by decide +kernel) rfl, o_gT (i := 1265) (by decide +kernel) rfl⟩
abbrev mL_share : o_M := (RL, cL_share, 4, some .int, [(0, 9, 12, 28)])
abbrev wL_share : Cond := .codeWith yL_share cL_share 4 (some .int) [(0, 9, 12, 28)]
theorem ys_L_share : o_ys yL_share wL_share := ⟨o_gT (i := 1267) (by decide +kernel) rfl, o_gT (i := 0) (by decide +kernel) rfl, o_gT (i := 1268) (by decide +kernel) rfl⟩
abbrev mX11_share : o_M := (RX11, cX11_share, 2, some .int, [])
abbrev wX11_share : Cond := .code yX11_share cX11_share 2 (some .int)
theorem yw_X11_share : o_yw yX11_share wX11_share := ⟨o_gT (i := 1270) (by decide +kernel) rfl, o_gT (i := 1271) (by decide +kernel) rfl, o_gT (i := 1) (by decide +kernel) rfl, o_gT (i := 1272) (by decide +kernel) rfl⟩
abbrev mL_shareByRank : o_M := (RL, cL_shareByRank, 4, some .int, [(0, 9, 12, 28)])
abbrev wL_shareByRank : Cond := .codeWith yL_shareByRank cL_shareByRank 4 (some .int) [(0, 9, 12, 28)]
theorem ys_L_shareByRank : o_ys yL_shareByRank wL_shareByRank := ⟨o_gT (i := 1274) (by decide +kernel) rfl, o_gT (i := 0) (by decide +kernel) rfl, o_gT (i := 1275) (by decide +kernel) rfl⟩
abbrev mX11_shareByRank : o_M := (RX11, cX11_shareByRank, 2, some .int, [])
abbrev wX11_shareByRank : Cond := .code yX11_shareByRank cX11_shareByRank 2 (some .int)
theorem yw_X11_shareByRank : o_yw yX11_shareByRank wX11_shareByRank := ⟨o_gT (i := 1277) (by decide +kernel) rfl, o_gT (i := 1278) (by decide +kernel) rfl, o_gT (i := 1) (by decide +kernel) rfl, o_gT (i := 1279) (by decide +kernel) rfl⟩
abbrev mL_requestedLamp : o_M := (RL, cL_requestedLamp, 4, some .int, [(0, 9, 12, 36)])
abbrev wL_requestedLamp : Cond := .codeWith yL_requestedLamp cL_requestedLamp 4 (some .int) [(0, 9, 12, 36)]
theorem ys_L_requestedLamp : o_ys yL_requestedLamp wL_requestedLamp := ⟨o_gT (i := 1281) (by decide +kernel) rfl, o_gT (i := 0) (by decide +kernel) rfl, o_gT (i := 1282) (by decide +kernel) rfl⟩
abbrev mX11_requestedLamp : o_M := (RX11, cX11_requestedLamp, 2, some .int, [])
abbrev wX11_requestedLamp : Cond := .code yX11_requestedLamp cX11_requestedLamp 2 (some .int)
theorem yw_X11_requestedLamp : o_yw yX11_requestedLamp wX11_requestedLamp := ⟨o_gT (i := 1284) (by decide +kernel) rfl, o_gT (i := 1285) (by decide +kernel) rfl, o_gT (i := 1) (by decide +kernel) rfl, o_gT (i := 1286) (by decide +kernel) rfl⟩
abbrev mX11_throwUnlessPosition : o_M := (RX11, cX11_throwUnlessPosition, 2, none, [])
abbrev wX11_throwUnlessPosition : Cond := .code yX11_throwUnlessPosition cX11_throwUnlessPosition 2 (none)
theorem yw_X11_throwUnlessPosition : o_yw yX11_throwUnlessPosition wX11_throwUnlessPosition := ⟨o_gT (i := 1289) (by decide +kernel) rfl, o_gS (i := 22) (by decide +kernel) rfl, o_gT (i := 1) (by decide +kernel) rfl, o_gT (i := 1290) (by decide +kernel) rfl⟩
abbrev mL_requestedHours : o_M := (RL, cL_requestedHours, 4, some .int, [(0, 9, 12, 36)])
abbrev wL_requestedHours : Cond := .codeWith yL_requestedHours cL_requestedHours 4 (some .int) [(0, 9, 12, 36)]
theorem ys_L_requestedHours : o_ys yL_requestedHours wL_requestedHours := ⟨o_gT (i := 1293) (by decide +kernel) rfl, o_gT (i := 0) (by decide +kernel) rfl, o_gT (i := 1294) (by decide +kernel) rfl⟩
abbrev mX11_requestedHours : o_M := (RX11, cX11_requestedHours, 2, some .int, [])
abbrev wX11_requestedHours : Cond := .code yX11_requestedHours cX11_requestedHours 2 (some .int)
theorem yw_X11_requestedHours : o_yw yX11_requestedHours wX11_requestedHours := ⟨o_gT (i := 1296) (by decide +kernel) rfl, o_gT (i := 1297) (by decide +kernel) rfl, o_gT (i := 1) (by decide +kernel) rfl, o_gT (i := 1298) (by decide +kernel) rfl⟩
abbrev mL_shipByFines : o_M := (RL, cL_shipByFines, 4, some .int, [(0, 9, 12, 36)])
abbrev wL_shipByFines : Cond := .codeWith yL_shipByFines cL_shipByFines 4 (some .int) [(0, 9, 12, 36)]
theorem ys_L_shipByFines : o_ys yL_shipByFines wL_shipByFines := ⟨o_gT (i := 1300) (by decide +kernel) rfl, o_gT (i := 0) (by decide +kernel) rfl, o_gT (i := 1301) (by decide +kernel) rfl⟩
abbrev mX11_shipByFines : o_M := (RX11, cX11_shipByFines, 3, some .int, [])
abbrev wX11_shipByFines : Cond := .code yX11_shipByFines cX11_shipByFines 3 (some .int)
theorem yw_X11_shipByFines : o_yw yX11_shipByFines wX11_shipByFines := ⟨o_gT (i := 1303) (by decide +kernel) rfl, o_gT (i := 1304) (by decide +kernel) rfl, o_gT (i := 1) (by decide +kernel) rfl, o_gT (i := 1305) (by decide +kernel) rfl⟩
abbrev mX9_atRank : o_M := (RX9, cX9_atRank, 3, some .int, [])
abbrev wX9_atRank : Cond := .code yX9_atRank cX9_atRank 3 (some .int)
theorem yw_X9_atRank : o_yw yX9_atRank wX9_atRank := ⟨o_gT (i := 1307) (by decide +kernel) rfl, o_gT (i := 1308) (by decide +kernel) rfl, o_gT (i := 3) (by decide +kernel) rfl, o_gT (i := 1309) (by decide +kernel) rfl⟩
abbrev mX9_rankOf : o_M := (RX9, cX9_rankOf, 4, some .int, [])
abbrev wX9_rankOf : Cond := .code yX9_rankOf cX9_rankOf 4 (some .int)
theorem yw_X9_rankOf : o_yw yX9_rankOf wX9_rankOf := ⟨o_gT (i := 1312) (by decide +kernel) rfl, o_gS (i := 23) (by decide +kernel) rfl, o_gT (i := 3) (by decide +kernel) rfl, o_gT (i := 1313) (by decide +kernel) rfl⟩
abbrev mX9_isBefore : o_M := (RX9, cX9_isBefore, 3, some .boolean, [])
abbrev wX9_isBefore : Cond := .code yX9_isBefore cX9_isBefore 3 (some .boolean)
theorem yw_X9_isBefore : o_yw yX9_isBefore wX9_isBefore := ⟨o_gT (i := 1316) (by decide +kernel) rfl, o_gS (i := 24) (by decide +kernel) rfl, o_gT (i := 3) (by decide +kernel) rfl, o_gT (i := 1317) (by decide +kernel) rfl⟩
abbrev mL_lampByEnd : o_M := (RL, cL_lampByEnd, 4, some .int, [(0, 9, 12, 36)])
abbrev wL_lampByEnd : Cond := .codeWith yL_lampByEnd cL_lampByEnd 4 (some .int) [(0, 9, 12, 36)]
theorem ys_L_lampByEnd : o_ys yL_lampByEnd wL_lampByEnd := ⟨o_gT (i := 1319) (by decide +kernel) rfl, o_gT (i := 0) (by decide +kernel) rfl, o_gT (i := 1320) (by decide +kernel) rfl⟩
abbrev mX11_lampByEnd : o_M := (RX11, cX11_lampByEnd, 3, some .int, [])
abbrev wX11_lampByEnd : Cond := .code yX11_lampByEnd cX11_lampByEnd 3 (some .int)
theorem yw_X11_lampByEnd : o_yw yX11_lampByEnd wX11_lampByEnd := ⟨o_gT (i := 1322) (by decide +kernel) rfl, o_gT (i := 1323) (by decide +kernel) rfl, o_gT (i := 1) (by decide +kernel) rfl, o_gT (i := 1324) (by decide +kernel) rfl⟩
abbrev mX7_atRank : o_M := (RX7, cX7_atRank, 3, some .int, [])
abbrev wX7_atRank : Cond := .code yX7_atRank cX7_atRank 3 (some .int)
theorem yw_X7_atRank : o_yw yX7_atRank wX7_atRank := ⟨o_gT (i := 1326) (by decide +kernel) rfl, o_gT (i := 1327) (by decide +kernel) rfl, o_gT (i := 4) (by decide +kernel) rfl, o_gT (i := 1328) (by decide +kernel) rfl⟩
abbrev mX7_rankOf : o_M := (RX7, cX7_rankOf, 4, some .int, [])
abbrev wX7_rankOf : Cond := .code yX7_rankOf cX7_rankOf 4 (some .int)
theorem yw_X7_rankOf : o_yw yX7_rankOf wX7_rankOf := ⟨o_gT (i := 1331) (by decide +kernel) rfl, o_gS (i := 25) (by decide +kernel) rfl, o_gT (i := 4) (by decide +kernel) rfl, o_gT (i := 1332) (by decide +kernel) rfl⟩
abbrev mX7_isBefore : o_M := (RX7, cX7_isBefore, 3, some .boolean, [])
abbrev wX7_isBefore : Cond := .code yX7_isBefore cX7_isBefore 3 (some .boolean)
theorem yw_X7_isBefore : o_yw yX7_isBefore wX7_isBefore := ⟨o_gT (i := 1335) (by decide +kernel) rfl, o_gS (i := 26) (by decide +kernel) rfl, o_gT (i := 4) (by decide +kernel) rfl, o_gT (i := 1336) (by decide +kernel) rfl⟩
abbrev mL_meanCoins : o_M := (RL, cL_meanCoins, 3, some .int, [(0, 7, 10, 106)])
abbrev wL_meanCoins : Cond := .codeWith yL_meanCoins cL_meanCoins 3 (some .int) [(0, 7, 10, 106)]
theorem ys_L_meanCoins : o_ys yL_meanCoins wL_meanCoins := ⟨o_gT (i := 1338) (by decide +kernel) rfl, o_gT (i := 0) (by decide +kernel) rfl, o_gT (i := 1339) (by decide +kernel) rfl⟩
abbrev mX11_meanCoins : o_M := (RX11, cX11_meanCoins, 2, some .double, [])
abbrev wX11_meanCoins : Cond := .code yX11_meanCoins cX11_meanCoins 2 (some .double)
theorem yw_X11_meanCoins : o_yw yX11_meanCoins wX11_meanCoins := ⟨o_gT (i := 1355) (by decide +kernel) rfl, o_gT (i := 1356) (by decide +kernel) rfl, o_gT (i := 1) (by decide +kernel) rfl, o_gT (i := 1357) (by decide +kernel) rfl⟩
abbrev mL_leasedShare : o_M := (RL, cL_leasedShare, 3, some .int, [(0, 8, 11, 106)])
abbrev wL_leasedShare : Cond := .codeWith yL_leasedShare cL_leasedShare 3 (some .int) [(0, 8, 11, 106)]
theorem ys_L_leasedShare : o_ys yL_leasedShare wL_leasedShare := ⟨o_gT (i := 1362) (by decide +kernel) rfl, o_gT (i := 0) (by decide +kernel) rfl, o_gT (i := 1363) (by decide +kernel) rfl⟩
abbrev mX11_leasedShare : o_M := (RX11, cX11_leasedShare, 2, some .float, [])
abbrev wX11_leasedShare : Cond := .code yX11_leasedShare cX11_leasedShare 2 (some .float)
theorem yw_X11_leasedShare : o_yw yX11_leasedShare wX11_leasedShare := ⟨o_gT (i := 1365) (by decide +kernel) rfl, o_gT (i := 1366) (by decide +kernel) rfl, o_gT (i := 1) (by decide +kernel) rfl, o_gT (i := 1367) (by decide +kernel) rfl⟩
abbrev mL_feed : o_M := (RL, cL_feed, 4, some .int, [(0, 9, 12, 13)])
abbrev wL_feed : Cond := .codeWith yL_feed cL_feed 4 (some .int) [(0, 9, 12, 13)]
theorem ys_L_feed : o_ys yL_feed wL_feed := ⟨o_gT (i := 1370) (by decide +kernel) rfl, o_gT (i := 0) (by decide +kernel) rfl, o_gT (i := 1371) (by decide +kernel) rfl⟩
abbrev mX11_feed : o_M := (RX11, cX11_feed, 2, some .int, [])
abbrev wX11_feed : Cond := .code yX11_feed cX11_feed 2 (some .int)
theorem yw_X11_feed : o_yw yX11_feed wX11_feed := ⟨o_gT (i := 1373) (by decide +kernel) rfl, o_gT (i := 1374) (by decide +kernel) rfl, o_gT (i := 1) (by decide +kernel) rfl, o_gT (i := 1375) (by decide +kernel) rfl⟩
abbrev mX2_append : o_M := (RX2, cX2_append, 2, some .int, [])
abbrev wX2_append : Cond := .code yX2_append cX2_append 2 (some .int)
theorem yw_X2_append : o_yw yX2_append wX2_append := ⟨o_gT (i := 1378) (by decide +kernel) rfl, o_gT (i := 1379) (by decide +kernel) rfl, o_gT (i := 9) (by decide +kernel) rfl, o_gT (i := 1380) (by decide +kernel) rfl⟩
abbrev mL_runCommands : o_M := (RL, cL_runCommands, 3, some .int, [(0, 8, 11, 19), (0, 8, 14, 30)])
abbrev wL_runCommands : Cond := .codeWith yL_runCommands cL_runCommands 3 (some .int) [(0, 8, 11, 19), (0, 8, 14, 30)]
theorem ys_L_runCommands : o_ys yL_runCommands wL_runCommands := ⟨o_gT (i := 1382) (by decide +kernel) rfl, o_gT (i := 0) (by decide +kernel) rfl, o_gT (i := 1383) (by decide +kernel) rfl⟩
abbrev mX11_runCommands : o_M := (RX11, cX11_runCommands, 4, some .int, [])
abbrev wX11_runCommands : Cond := .code yX11_runCommands cX11_runCommands 4 (some .int)
theorem yw_X11_runCommands : o_yw yX11_runCommands wX11_runCommands := ⟨o_gT (i := 1385) (by decide +kernel) rfl, o_gT (i := 1386) (by decide +kernel) rfl, o_gT (i := 1) (by decide +kernel) rfl, o_gT (i := 1387) (by decide +kernel) rfl⟩
abbrev mX2_parse : o_M := (RX2, cX2_parse, 2, some .boolean, [])
abbrev wX2_parse : Cond := .code yX2_parse cX2_parse 2 (some .boolean)
theorem yw_X2_parse : o_yw yX2_parse wX2_parse := ⟨o_gT (i := 1389) (by decide +kernel) rfl, o_gT (i := 1390) (by decide +kernel) rfl, o_gT (i := 9) (by decide +kernel) rfl, o_gT (i := 1391) (by decide +kernel) rfl⟩
abbrev mX2_readCommand : o_M := (RX2, cX2_readCommand, 5, some .boolean, [])
abbrev wX2_readCommand : Cond := .code yX2_readCommand cX2_readCommand 5 (some .boolean)
theorem yw_X2_readCommand : o_yw yX2_readCommand wX2_readCommand := ⟨o_gT (i := 1394) (by decide +kernel) rfl, o_gS (i := 27) (by decide +kernel) rfl, o_gT (i := 9) (by decide +kernel) rfl, o_gT (i := 1395) (by decide +kernel) rfl⟩
abbrev mX2_readKeyword : o_M := (RX2, cX2_readKeyword, 5, some (.object "LampLeaseOffice$Keyword"), [])
abbrev wX2_readKeyword : Cond := .code yX2_readKeyword cX2_readKeyword 5 (some (.object "LampLeaseOffice$Keyword"))
theorem yw_X2_readKeyword : o_yw yX2_readKeyword wX2_readKeyword := ⟨o_gT (i := 1398) (by decide +kernel) rfl, o_gS (i := 28) (by decide +kernel) rfl, o_gT (i := 9) (by decide +kernel) rfl, o_gT (i := 1399) (by decide +kernel) rfl⟩
abbrev mX2_commonLetters : o_M := (RX2, cX2_commonLetters, 3, some .int, [])
abbrev wX2_commonLetters : Cond := .code yX2_commonLetters cX2_commonLetters 3 (some .int)
theorem yw_X2_commonLetters : o_yw yX2_commonLetters wX2_commonLetters := ⟨o_gT (i := 1404) (by decide +kernel) rfl, o_gS (i := 29) (by decide +kernel) rfl, o_gT (i := 9) (by decide +kernel) rfl, o_gT (i := 1405) (by decide +kernel) rfl⟩
abbrev mJ0_charAt_5068e : o_M := (RJ0, cJ0_charAt_5068e, 2, some .char, [])
abbrev wJ0_charAt_5068e : Cond := .code yJ0_charAt_5068e cJ0_charAt_5068e 2 (some .char)
theorem yw_J0_charAt_5068e : o_yw yJ0_charAt_5068e wJ0_charAt_5068e := ⟨o_gT (i := 1408) (by decide +kernel) rfl, o_gT (i := 1409) (by decide +kernel) rfl, o_gT (i := 15) (by decide +kernel) rfl, o_gT (i := 1410) (by decide +kernel) rfl⟩
abbrev mJ0_isLatin1_aae02 : o_M := (RJ0, cJ0_isLatin1_aae02, 1, some .boolean, [])
abbrev wJ0_isLatin1_aae02 : Cond := .code yJ0_isLatin1_aae02 cJ0_isLatin1_aae02 1 (some .boolean)
theorem yw_J0_isLatin1_aae02 : o_yw yJ0_isLatin1_aae02 wJ0_isLatin1_aae02 := ⟨o_gT (i := 1412) (by decide +kernel) rfl, o_gT (i := 1413) (by decide +kernel) rfl, o_gT (i := 15) (by decide +kernel) rfl, o_gT (i := 1414) (by decide +kernel) rfl⟩
abbrev mJ1_charAt_3b067 : o_M := (RJ1, cJ1_charAt_3b067, 2, some .char, [])
abbrev wJ1_charAt_3b067 : Cond := .code yJ1_charAt_3b067 cJ1_charAt_3b067 2 (some .char)
theorem ys_J1_charAt_3b067 : o_ys yJ1_charAt_3b067 wJ1_charAt_3b067 := ⟨o_gT (i := 1416) (by decide +kernel) rfl, o_gT (i := 30) (by decide +kernel) rfl, o_gT (i := 1417) (by decide +kernel) rfl⟩
abbrev mJ2_charAt_3b067 : o_M := (RJ2, cJ2_charAt_3b067, 2, some .char, [])
abbrev wJ2_charAt_3b067 : Cond := .code yJ2_charAt_3b067 cJ2_charAt_3b067 2 (some .char)
theorem ys_J2_charAt_3b067 : o_ys yJ2_charAt_3b067 wJ2_charAt_3b067 := ⟨o_gT (i := 1420) (by decide +kernel) rfl, o_gT (i := 16) (by decide +kernel) rfl, o_gT (i := 1421) (by decide +kernel) rfl⟩
abbrev mX2_isAt : o_M := (RX2, cX2_isAt, 2, some .boolean, [])
abbrev wX2_isAt : Cond := .code yX2_isAt cX2_isAt 2 (some .boolean)
theorem yw_X2_isAt : o_yw yX2_isAt wX2_isAt := ⟨o_gT (i := 1425) (by decide +kernel) rfl, o_gS (i := 30) (by decide +kernel) rfl, o_gT (i := 9) (by decide +kernel) rfl, o_gT (i := 1426) (by decide +kernel) rfl⟩
abbrev mX1_put : o_M := (RX1, cX1_put, 3, none, [])
abbrev wX1_put : Cond := .code yX1_put cX1_put 3 (none)
theorem yw_X1_put : o_yw yX1_put wX1_put := ⟨o_gT (i := 1428) (by decide +kernel) rfl, o_gT (i := 1429) (by decide +kernel) rfl, o_gT (i := 10) (by decide +kernel) rfl, o_gT (i := 1430) (by decide +kernel) rfl⟩
abbrev mX2_readBlankAndNumber : o_M := (RX2, cX2_readBlankAndNumber, 4, some .int, [])
abbrev wX2_readBlankAndNumber : Cond := .code yX2_readBlankAndNumber cX2_readBlankAndNumber 4 (some .int)
theorem yw_X2_readBlankAndNumber : o_yw yX2_readBlankAndNumber wX2_readBlankAndNumber := ⟨o_gT (i := 1433) (by decide +kernel) rfl, o_gS (i := 31) (by decide +kernel) rfl, o_gT (i := 9) (by decide +kernel) rfl, o_gT (i := 1434) (by decide +kernel) rfl⟩
abbrev mX2_isAtDigit : o_M := (RX2, cX2_isAtDigit, 1, some .boolean, [])
abbrev wX2_isAtDigit : Cond := .code yX2_isAtDigit cX2_isAtDigit 1 (some .boolean)
theorem yw_X2_isAtDigit : o_yw yX2_isAtDigit wX2_isAtDigit := ⟨o_gT (i := 1437) (by decide +kernel) rfl, o_gS (i := 32) (by decide +kernel) rfl, o_gT (i := 9) (by decide +kernel) rfl, o_gT (i := 1438) (by decide +kernel) rfl⟩
abbrev mX2_clear : o_M := (RX2, cX2_clear, 1, none, [])
abbrev wX2_clear : Cond := .code yX2_clear cX2_clear 1 (none)
theorem yw_X2_clear : o_yw yX2_clear wX2_clear := ⟨o_gT (i := 1440) (by decide +kernel) rfl, o_gT (i := 1441) (by decide +kernel) rfl, o_gT (i := 9) (by decide +kernel) rfl, o_gT (i := 1442) (by decide +kernel) rfl⟩
abbrev mX11_faultOf : o_M := (RX11, cX11_faultOf, 2, some .char, [])
abbrev wX11_faultOf : Cond := .code yX11_faultOf cX11_faultOf 2 (some .char)
theorem yw_X11_faultOf : o_yw yX11_faultOf wX11_faultOf := ⟨o_gT (i := 1446) (by decide +kernel) rfl, o_gS (i := 33) (by decide +kernel) rfl, o_gT (i := 1) (by decide +kernel) rfl, o_gT (i := 1447) (by decide +kernel) rfl⟩
abbrev mJx29ce0_ordinal_8abf5 : o_M := (RJx29ce0, cJx29ce0_ordinal_8abf5, 1, some .int, [])
abbrev wJx29ce0_ordinal_8abf5 : Cond := .code yJx29ce0_ordinal_8abf5 cJx29ce0_ordinal_8abf5 1 (some .int)
theorem yi_Jx29ce0_ordinal_8abf5 : o_yi yJx29ce0_ordinal_8abf5 wJx29ce0_ordinal_8abf5 := ⟨o_gT (i := 1454) (by decide +kernel) rfl, o_gT (i := 11) (by decide +kernel) rfl, o_gT (i := 1455) (by decide +kernel) rfl⟩
abbrev mX1_first : o_M := (RX1, cX1_first, 1, some .int, [])
abbrev wX1_first : Cond := .code yX1_first cX1_first 1 (some .int)
theorem yw_X1_first : o_yw yX1_first wX1_first := ⟨o_gT (i := 1457) (by decide +kernel) rfl, o_gT (i := 1458) (by decide +kernel) rfl, o_gT (i := 10) (by decide +kernel) rfl, o_gT (i := 1459) (by decide +kernel) rfl⟩
abbrev mX1_second : o_M := (RX1, cX1_second, 1, some .int, [])
abbrev wX1_second : Cond := .code yX1_second cX1_second 1 (some .int)
theorem yw_X1_second : o_yw yX1_second wX1_second := ⟨o_gT (i := 1461) (by decide +kernel) rfl, o_gT (i := 1462) (by decide +kernel) rfl, o_gT (i := 10) (by decide +kernel) rfl, o_gT (i := 1463) (by decide +kernel) rfl⟩
abbrev mX1_third : o_M := (RX1, cX1_third, 1, some .int, [])
abbrev wX1_third : Cond := .code yX1_third cX1_third 1 (some .int)
theorem yw_X1_third : o_yw yX1_third wX1_third := ⟨o_gT (i := 1465) (by decide +kernel) rfl, o_gT (i := 1466) (by decide +kernel) rfl, o_gT (i := 10) (by decide +kernel) rfl, o_gT (i := 1467) (by decide +kernel) rfl⟩
abbrev mX11_carryOut : o_M := (RX11, cX11_carryOut, 2, none, [])
abbrev wX11_carryOut : Cond := .code yX11_carryOut cX11_carryOut 2 (none)
theorem yw_X11_carryOut : o_yw yX11_carryOut wX11_carryOut := ⟨o_gT (i := 1471) (by decide +kernel) rfl, o_gS (i := 34) (by decide +kernel) rfl, o_gT (i := 1) (by decide +kernel) rfl, o_gT (i := 1472) (by decide +kernel) rfl⟩
abbrev mL_errorPosition : o_M := (RL, cL_errorPosition, 3, some .int, [(0, 8, 11, 36)])
abbrev wL_errorPosition : Cond := .codeWith yL_errorPosition cL_errorPosition 3 (some .int) [(0, 8, 11, 36)]
theorem ys_L_errorPosition : o_ys yL_errorPosition wL_errorPosition := ⟨o_gT (i := 1474) (by decide +kernel) rfl, o_gT (i := 0) (by decide +kernel) rfl, o_gT (i := 1475) (by decide +kernel) rfl⟩
abbrev mX11_errorPosition : o_M := (RX11, cX11_errorPosition, 1, some .int, [])
abbrev wX11_errorPosition : Cond := .code yX11_errorPosition cX11_errorPosition 1 (some .int)
theorem yw_X11_errorPosition : o_yw yX11_errorPosition wX11_errorPosition := ⟨o_gT (i := 1477) (by decide +kernel) rfl, o_gT (i := 1478) (by decide +kernel) rfl, o_gT (i := 1) (by decide +kernel) rfl, o_gT (i := 1479) (by decide +kernel) rfl⟩
abbrev mL_failedCommand : o_M := (RL, cL_failedCommand, 3, some .int, [(0, 8, 11, 36)])
abbrev wL_failedCommand : Cond := .codeWith yL_failedCommand cL_failedCommand 3 (some .int) [(0, 8, 11, 36)]
theorem ys_L_failedCommand : o_ys yL_failedCommand wL_failedCommand := ⟨o_gT (i := 1481) (by decide +kernel) rfl, o_gT (i := 0) (by decide +kernel) rfl, o_gT (i := 1482) (by decide +kernel) rfl⟩
abbrev mX11_failedCommand : o_M := (RX11, cX11_failedCommand, 1, some .int, [])
abbrev wX11_failedCommand : Cond := .code yX11_failedCommand cX11_failedCommand 1 (some .int)
theorem yw_X11_failedCommand : o_yw yX11_failedCommand wX11_failedCommand := ⟨o_gT (i := 1484) (by decide +kernel) rfl, o_gT (i := 1485) (by decide +kernel) rfl, o_gT (i := 1) (by decide +kernel) rfl, o_gT (i := 1486) (by decide +kernel) rfl⟩
abbrev mL_failureReason : o_M := (RL, cL_failureReason, 3, some .int, [(0, 8, 11, 36)])
abbrev wL_failureReason : Cond := .codeWith yL_failureReason cL_failureReason 3 (some .int) [(0, 8, 11, 36)]
theorem ys_L_failureReason : o_ys yL_failureReason wL_failureReason := ⟨o_gT (i := 1488) (by decide +kernel) rfl, o_gT (i := 0) (by decide +kernel) rfl, o_gT (i := 1489) (by decide +kernel) rfl⟩
abbrev mX11_failureReason : o_M := (RX11, cX11_failureReason, 1, some .char, [])
abbrev wX11_failureReason : Cond := .code yX11_failureReason cX11_failureReason 1 (some .char)
theorem yw_X11_failureReason : o_yw yX11_failureReason wX11_failureReason := ⟨o_gT (i := 1491) (by decide +kernel) rfl, o_gT (i := 1492) (by decide +kernel) rfl, o_gT (i := 1) (by decide +kernel) rfl, o_gT (i := 1493) (by decide +kernel) rfl⟩
abbrev mL_outputChar : o_M := (RL, cL_outputChar, 4, some .int, [(0, 9, 12, 28)])
abbrev wL_outputChar : Cond := .codeWith yL_outputChar cL_outputChar 4 (some .int) [(0, 9, 12, 28)]
theorem ys_L_outputChar : o_ys yL_outputChar wL_outputChar := ⟨o_gT (i := 1495) (by decide +kernel) rfl, o_gT (i := 0) (by decide +kernel) rfl, o_gT (i := 1496) (by decide +kernel) rfl⟩
abbrev mX11_outputChar : o_M := (RX11, cX11_outputChar, 2, some .char, [])
abbrev wX11_outputChar : Cond := .code yX11_outputChar cX11_outputChar 2 (some .char)
theorem yw_X11_outputChar : o_yw yX11_outputChar wX11_outputChar := ⟨o_gT (i := 1498) (by decide +kernel) rfl, o_gT (i := 1499) (by decide +kernel) rfl, o_gT (i := 1) (by decide +kernel) rfl, o_gT (i := 1500) (by decide +kernel) rfl⟩
abbrev mJ4_charAt_5068e : o_M := (RJ4, cJ4_charAt_5068e, 2, some .char, [])
abbrev wJ4_charAt_5068e : Cond := .code yJ4_charAt_5068e cJ4_charAt_5068e 2 (some .char)
theorem yw_J4_charAt_5068e : o_yw yJ4_charAt_5068e wJ4_charAt_5068e := ⟨o_gT (i := 1503) (by decide +kernel) rfl, o_gT (i := 1504) (by decide +kernel) rfl, o_gT (i := 14) (by decide +kernel) rfl, o_gT (i := 1505) (by decide +kernel) rfl⟩
abbrev mJ5_charAt_5068e : o_M := (RJ5, cJ5_charAt_5068e, 5, some .char, [])
abbrev wJ5_charAt_5068e : Cond := .code yJ5_charAt_5068e cJ5_charAt_5068e 5 (some .char)
theorem yi_J5_charAt_5068e : o_yi yJ5_charAt_5068e wJ5_charAt_5068e := ⟨o_gT (i := 1507) (by decide +kernel) rfl, o_gT (i := 13) (by decide +kernel) rfl, o_gT (i := 1508) (by decide +kernel) rfl⟩
abbrev mL_undo : o_M := (RL, cL_undo, 3, some .int, [(0, 8, 11, 13)])
abbrev wL_undo : Cond := .codeWith yL_undo cL_undo 3 (some .int) [(0, 8, 11, 13)]
theorem ys_L_undo : o_ys yL_undo wL_undo := ⟨o_gT (i := 1513) (by decide +kernel) rfl, o_gT (i := 0) (by decide +kernel) rfl, o_gT (i := 1514) (by decide +kernel) rfl⟩
abbrev mX11_undo : o_M := (RX11, cX11_undo, 1, some .int, [])
abbrev wX11_undo : Cond := .code yX11_undo cX11_undo 1 (some .int)
theorem yw_X11_undo : o_yw yX11_undo wX11_undo := ⟨o_gT (i := 1516) (by decide +kernel) rfl, o_gT (i := 1517) (by decide +kernel) rfl, o_gT (i := 1) (by decide +kernel) rfl, o_gT (i := 1518) (by decide +kernel) rfl⟩
abbrev mX5_popInto : o_M := (RX5, cX5_popInto, 2, none, [])
abbrev wX5_popInto : Cond := .code yX5_popInto cX5_popInto 2 (none)
theorem yw_X5_popInto : o_yw yX5_popInto wX5_popInto := ⟨o_gT (i := 1521) (by decide +kernel) rfl, o_gT (i := 1522) (by decide +kernel) rfl, o_gT (i := 6) (by decide +kernel) rfl, o_gT (i := 1523) (by decide +kernel) rfl⟩
abbrev mL_restore : o_M := (RL, cL_restore, 3, some .int, [(0, 8, 11, 13)])
abbrev wL_restore : Cond := .codeWith yL_restore cL_restore 3 (some .int) [(0, 8, 11, 13)]
theorem ys_L_restore : o_ys yL_restore wL_restore := ⟨o_gT (i := 1525) (by decide +kernel) rfl, o_gT (i := 0) (by decide +kernel) rfl, o_gT (i := 1526) (by decide +kernel) rfl⟩
abbrev mX11_restore : o_M := (RX11, cX11_restore, 1, some .int, [])
abbrev wX11_restore : Cond := .code yX11_restore cX11_restore 1 (some .int)
theorem yw_X11_restore : o_yw yX11_restore wX11_restore := ⟨o_gT (i := 1528) (by decide +kernel) rfl, o_gT (i := 1529) (by decide +kernel) rfl, o_gT (i := 1) (by decide +kernel) rfl, o_gT (i := 1530) (by decide +kernel) rfl⟩
abbrev mX5_clear : o_M := (RX5, cX5_clear, 1, none, [])
abbrev wX5_clear : Cond := .code yX5_clear cX5_clear 1 (none)
theorem yw_X5_clear : o_yw yX5_clear wX5_clear := ⟨o_gT (i := 1533) (by decide +kernel) rfl, o_gT (i := 1534) (by decide +kernel) rfl, o_gT (i := 6) (by decide +kernel) rfl, o_gT (i := 1535) (by decide +kernel) rfl⟩
abbrev mX12_init : o_M := (RX12, cX12_init, 1, none, [])
abbrev wX12_init : Cond := .code yX12_init cX12_init 1 (none)
theorem yi_X12_init : o_yi yX12_init wX12_init := ⟨o_gT (i := 1539) (by decide +kernel) rfl, o_gT (i := 17) (by decide +kernel) rfl, o_gT (i := 1540) (by decide +kernel) rfl⟩
abbrev mX12_thrown : o_M := (RX12, cX12_thrown, 1, some .int, [])
abbrev wX12_thrown : Cond := .code yX12_thrown cX12_thrown 1 (some .int)
theorem yw_X12_thrown : o_yw yX12_thrown wX12_thrown := ⟨o_gT (i := 1601) (by decide +kernel) rfl, o_gT (i := 1602) (by decide +kernel) rfl, o_gT (i := 17) (by decide +kernel) rfl, o_gT (i := 1603) (by decide +kernel) rfl⟩
abbrev mX12_addShip : o_M := (RX12, cX12_addShip, 1, some .int, [])
abbrev wX12_addShip : Cond := .code yX12_addShip cX12_addShip 1 (some .int)
theorem yw_X12_addShip : o_yw yX12_addShip wX12_addShip := ⟨o_gT (i := 1605) (by decide +kernel) rfl, o_gT (i := 1606) (by decide +kernel) rfl, o_gT (i := 17) (by decide +kernel) rfl, o_gT (i := 1607) (by decide +kernel) rfl⟩
abbrev mX12_keep : o_M := (RX12, cX12_keep, 1, none, [])
abbrev wX12_keep : Cond := .code yX12_keep cX12_keep 1 (none)
theorem yw_X12_keep : o_yw yX12_keep wX12_keep := ⟨o_gT (i := 1610) (by decide +kernel) rfl, o_gS (i := 35) (by decide +kernel) rfl, o_gT (i := 17) (by decide +kernel) rfl, o_gT (i := 1611) (by decide +kernel) rfl⟩
abbrev mX12_doAddShip : o_M := (RX12, cX12_doAddShip, 2, some .int, [])
abbrev wX12_doAddShip : Cond := .code yX12_doAddShip cX12_doAddShip 2 (some .int)
theorem yw_X12_doAddShip : o_yw yX12_doAddShip wX12_doAddShip := ⟨o_gT (i := 1615) (by decide +kernel) rfl, o_gS (i := 36) (by decide +kernel) rfl, o_gT (i := 17) (by decide +kernel) rfl, o_gT (i := 1616) (by decide +kernel) rfl⟩
abbrev mX12_fails : o_M := (RX12, cX12_fails, 2, some .int, [])
abbrev wX12_fails : Cond := .code yX12_fails cX12_fails 2 (some .int)
theorem yw_X12_fails : o_yw yX12_fails wX12_fails := ⟨o_gT (i := 1619) (by decide +kernel) rfl, o_gS (i := 37) (by decide +kernel) rfl, o_gT (i := 17) (by decide +kernel) rfl, o_gT (i := 1620) (by decide +kernel) rfl⟩
abbrev mX12_ends : o_M := (RX12, cX12_ends, 2, some .int, [])
abbrev wX12_ends : Cond := .code yX12_ends cX12_ends 2 (some .int)
theorem yw_X12_ends : o_yw yX12_ends wX12_ends := ⟨o_gT (i := 1623) (by decide +kernel) rfl, o_gS (i := 38) (by decide +kernel) rfl, o_gT (i := 17) (by decide +kernel) rfl, o_gT (i := 1624) (by decide +kernel) rfl⟩
abbrev mX12_addLamp : o_M := (RX12, cX12_addLamp, 2, some .int, [])
abbrev wX12_addLamp : Cond := .code yX12_addLamp cX12_addLamp 2 (some .int)
theorem yw_X12_addLamp : o_yw yX12_addLamp wX12_addLamp := ⟨o_gT (i := 1626) (by decide +kernel) rfl, o_gT (i := 1627) (by decide +kernel) rfl, o_gT (i := 17) (by decide +kernel) rfl, o_gT (i := 1628) (by decide +kernel) rfl⟩
abbrev mX12_doAddLamp : o_M := (RX12, cX12_doAddLamp, 4, some .int, [])
abbrev wX12_doAddLamp : Cond := .code yX12_doAddLamp cX12_doAddLamp 4 (some .int)
theorem yw_X12_doAddLamp : o_yw yX12_doAddLamp wX12_doAddLamp := ⟨o_gT (i := 1631) (by decide +kernel) rfl, o_gS (i := 39) (by decide +kernel) rfl, o_gT (i := 17) (by decide +kernel) rfl, o_gT (i := 1632) (by decide +kernel) rfl⟩
abbrev mX12_in : o_M := (RX12, cX12_in, 3, some .boolean, [])
abbrev wX12_in : Cond := .code yX12_in cX12_in 3 (some .boolean)
theorem ys_X12_in : o_ys yX12_in wX12_in := ⟨o_gT (i := 1634) (by decide +kernel) rfl, o_gT (i := 17) (by decide +kernel) rfl, o_gT (i := 1635) (by decide +kernel) rfl⟩
abbrev mX12_sets : o_M := (RX12, cX12_sets, 4, none, [])
abbrev wX12_sets : Cond := .code yX12_sets cX12_sets 4 (none)
theorem yw_X12_sets : o_yw yX12_sets wX12_sets := ⟨o_gT (i := 1638) (by decide +kernel) rfl, o_gS (i := 40) (by decide +kernel) rfl, o_gT (i := 17) (by decide +kernel) rfl, o_gT (i := 1639) (by decide +kernel) rfl⟩
abbrev mX12_addOil : o_M := (RX12, cX12_addOil, 2, some .int, [])
abbrev wX12_addOil : Cond := .code yX12_addOil cX12_addOil 2 (some .int)
theorem yw_X12_addOil : o_yw yX12_addOil wX12_addOil := ⟨o_gT (i := 1641) (by decide +kernel) rfl, o_gT (i := 1642) (by decide +kernel) rfl, o_gT (i := 17) (by decide +kernel) rfl, o_gT (i := 1643) (by decide +kernel) rfl⟩
abbrev mX12_doAddOil : o_M := (RX12, cX12_doAddOil, 2, some .int, [])
abbrev wX12_doAddOil : Cond := .code yX12_doAddOil cX12_doAddOil 2 (some .int)
theorem yw_X12_doAddOil : o_yw yX12_doAddOil wX12_doAddOil := ⟨o_gT (i := 1646) (by decide +kernel) rfl, o_gS (i := 41) (by decide +kernel) rfl, o_gT (i := 17) (by decide +kernel) rfl, o_gT (i := 1647) (by decide +kernel) rfl⟩
abbrev mX12_lease : o_M := (RX12, cX12_lease, 4, some .int, [])
abbrev wX12_lease : Cond := .code yX12_lease cX12_lease 4 (some .int)
theorem yw_X12_lease : o_yw yX12_lease wX12_lease := ⟨o_gT (i := 1649) (by decide +kernel) rfl, o_gT (i := 1650) (by decide +kernel) rfl, o_gT (i := 17) (by decide +kernel) rfl, o_gT (i := 1651) (by decide +kernel) rfl⟩
abbrev mX12_doLease : o_M := (RX12, cX12_doLease, 5, some .int, [])
abbrev wX12_doLease : Cond := .code yX12_doLease cX12_doLease 5 (some .int)
theorem yw_X12_doLease : o_yw yX12_doLease wX12_doLease := ⟨o_gT (i := 1654) (by decide +kernel) rfl, o_gS (i := 42) (by decide +kernel) rfl, o_gT (i := 17) (by decide +kernel) rfl, o_gT (i := 1655) (by decide +kernel) rfl⟩
abbrev mX12_isShip : o_M := (RX12, cX12_isShip, 2, some .boolean, [])
abbrev wX12_isShip : Cond := .code yX12_isShip cX12_isShip 2 (some .boolean)
theorem yw_X12_isShip : o_yw yX12_isShip wX12_isShip := ⟨o_gT (i := 1658) (by decide +kernel) rfl, o_gS (i := 43) (by decide +kernel) rfl, o_gT (i := 17) (by decide +kernel) rfl, o_gT (i := 1659) (by decide +kernel) rfl⟩
abbrev mX12_isLamp : o_M := (RX12, cX12_isLamp, 2, some .boolean, [])
abbrev wX12_isLamp : Cond := .code yX12_isLamp cX12_isLamp 2 (some .boolean)
theorem yw_X12_isLamp : o_yw yX12_isLamp wX12_isLamp := ⟨o_gT (i := 1662) (by decide +kernel) rfl, o_gS (i := 44) (by decide +kernel) rfl, o_gT (i := 17) (by decide +kernel) rfl, o_gT (i := 1663) (by decide +kernel) rfl⟩
abbrev mX12_isOut : o_M := (RX12, cX12_isOut, 2, some .boolean, [])
abbrev wX12_isOut : Cond := .code yX12_isOut cX12_isOut 2 (some .boolean)
theorem yw_X12_isOut : o_yw yX12_isOut wX12_isOut := ⟨o_gT (i := 1666) (by decide +kernel) rfl, o_gS (i := 45) (by decide +kernel) rfl, o_gT (i := 17) (by decide +kernel) rfl, o_gT (i := 1667) (by decide +kernel) rfl⟩
abbrev mX12_of : o_M := (RX12, cX12_of, 3, some .int, [])
abbrev wX12_of : Cond := .code yX12_of cX12_of 3 (some .int)
theorem yw_X12_of : o_yw yX12_of wX12_of := ⟨o_gT (i := 1670) (by decide +kernel) rfl, o_gS (i := 46) (by decide +kernel) rfl, o_gT (i := 17) (by decide +kernel) rfl, o_gT (i := 1671) (by decide +kernel) rfl⟩
abbrev mX12_ofShip : o_M := (RX12, cX12_ofShip, 3, some .int, [])
abbrev wX12_ofShip : Cond := .code yX12_ofShip cX12_ofShip 3 (some .int)
theorem yw_X12_ofShip : o_yw yX12_ofShip wX12_ofShip := ⟨o_gT (i := 1674) (by decide +kernel) rfl, o_gS (i := 47) (by decide +kernel) rfl, o_gT (i := 17) (by decide +kernel) rfl, o_gT (i := 1675) (by decide +kernel) rfl⟩
abbrev mX12_pays : o_M := (RX12, cX12_pays, 3, none, [])
abbrev wX12_pays : Cond := .code yX12_pays cX12_pays 3 (none)
theorem yw_X12_pays : o_yw yX12_pays wX12_pays := ⟨o_gT (i := 1678) (by decide +kernel) rfl, o_gS (i := 48) (by decide +kernel) rfl, o_gT (i := 17) (by decide +kernel) rfl, o_gT (i := 1679) (by decide +kernel) rfl⟩
abbrev mX12_requestRenewal : o_M := (RX12, cX12_requestRenewal, 3, some .int, [])
abbrev wX12_requestRenewal : Cond := .code yX12_requestRenewal cX12_requestRenewal 3 (some .int)
theorem yw_X12_requestRenewal : o_yw yX12_requestRenewal wX12_requestRenewal := ⟨o_gT (i := 1681) (by decide +kernel) rfl, o_gT (i := 1682) (by decide +kernel) rfl, o_gT (i := 17) (by decide +kernel) rfl, o_gT (i := 1683) (by decide +kernel) rfl⟩
abbrev mX12_doRequestRenewal : o_M := (RX12, cX12_doRequestRenewal, 4, some .int, [])
abbrev wX12_doRequestRenewal : Cond := .code yX12_doRequestRenewal cX12_doRequestRenewal 4 (some .int)
theorem yw_X12_doRequestRenewal : o_yw yX12_doRequestRenewal wX12_doRequestRenewal := ⟨o_gT (i := 1686) (by decide +kernel) rfl, o_gS (i := 49) (by decide +kernel) rfl, o_gT (i := 17) (by decide +kernel) rfl, o_gT (i := 1687) (by decide +kernel) rfl⟩
abbrev mX12_requestFor : o_M := (RX12, cX12_requestFor, 4, some .int, [])
abbrev wX12_requestFor : Cond := .code yX12_requestFor cX12_requestFor 4 (some .int)
theorem yw_X12_requestFor : o_yw yX12_requestFor wX12_requestFor := ⟨o_gT (i := 1690) (by decide +kernel) rfl, o_gS (i := 50) (by decide +kernel) rfl, o_gT (i := 17) (by decide +kernel) rfl, o_gT (i := 1691) (by decide +kernel) rfl⟩
abbrev mX12_giveUp : o_M := (RX12, cX12_giveUp, 2, some .int, [])
abbrev wX12_giveUp : Cond := .code yX12_giveUp cX12_giveUp 2 (some .int)
theorem yw_X12_giveUp : o_yw yX12_giveUp wX12_giveUp := ⟨o_gT (i := 1693) (by decide +kernel) rfl, o_gT (i := 1694) (by decide +kernel) rfl, o_gT (i := 17) (by decide +kernel) rfl, o_gT (i := 1695) (by decide +kernel) rfl⟩
abbrev mX12_doGiveUp : o_M := (RX12, cX12_doGiveUp, 3, some .int, [])
abbrev wX12_doGiveUp : Cond := .code yX12_doGiveUp cX12_doGiveUp 3 (some .int)
theorem yw_X12_doGiveUp : o_yw yX12_doGiveUp wX12_doGiveUp := ⟨o_gT (i := 1698) (by decide +kernel) rfl, o_gS (i := 51) (by decide +kernel) rfl, o_gT (i := 17) (by decide +kernel) rfl, o_gT (i := 1699) (by decide +kernel) rfl⟩
abbrev mX12_frees : o_M := (RX12, cX12_frees, 4, none, [])
abbrev wX12_frees : Cond := .code yX12_frees cX12_frees 4 (none)
theorem yw_X12_frees : o_yw yX12_frees wX12_frees := ⟨o_gT (i := 1702) (by decide +kernel) rfl, o_gS (i := 52) (by decide +kernel) rfl, o_gT (i := 17) (by decide +kernel) rfl, o_gT (i := 1703) (by decide +kernel) rfl⟩
abbrev mX12_passHours : o_M := (RX12, cX12_passHours, 2, some .int, [])
abbrev wX12_passHours : Cond := .code yX12_passHours cX12_passHours 2 (some .int)
theorem yw_X12_passHours : o_yw yX12_passHours wX12_passHours := ⟨o_gT (i := 1705) (by decide +kernel) rfl, o_gT (i := 1706) (by decide +kernel) rfl, o_gT (i := 17) (by decide +kernel) rfl, o_gT (i := 1707) (by decide +kernel) rfl⟩
abbrev mX12_doPassHours : o_M := (RX12, cX12_doPassHours, 5, some .int, [])
abbrev wX12_doPassHours : Cond := .code yX12_doPassHours cX12_doPassHours 5 (some .int)
theorem yw_X12_doPassHours : o_yw yX12_doPassHours wX12_doPassHours := ⟨o_gT (i := 1710) (by decide +kernel) rfl, o_gS (i := 53) (by decide +kernel) rfl, o_gT (i := 17) (by decide +kernel) rfl, o_gT (i := 1711) (by decide +kernel) rfl⟩
abbrev mX12_renews : o_M := (RX12, cX12_renews, 7, none, [])
abbrev wX12_renews : Cond := .code yX12_renews cX12_renews 7 (none)
theorem yw_X12_renews : o_yw yX12_renews wX12_renews := ⟨o_gT (i := 1714) (by decide +kernel) rfl, o_gS (i := 54) (by decide +kernel) rfl, o_gT (i := 17) (by decide +kernel) rfl, o_gT (i := 1715) (by decide +kernel) rfl⟩
abbrev mX12_burns : o_M := (RX12, cX12_burns, 4, some .int, [])
abbrev wX12_burns : Cond := .code yX12_burns cX12_burns 4 (some .int)
theorem yw_X12_burns : o_yw yX12_burns wX12_burns := ⟨o_gT (i := 1718) (by decide +kernel) rfl, o_gS (i := 55) (by decide +kernel) rfl, o_gT (i := 17) (by decide +kernel) rfl, o_gT (i := 1719) (by decide +kernel) rfl⟩
abbrev mX12_fines : o_M := (RX12, cX12_fines, 4, none, [])
abbrev wX12_fines : Cond := .code yX12_fines cX12_fines 4 (none)
theorem yw_X12_fines : o_yw yX12_fines wX12_fines := ⟨o_gT (i := 1722) (by decide +kernel) rfl, o_gS (i := 56) (by decide +kernel) rfl, o_gT (i := 17) (by decide +kernel) rfl, o_gT (i := 1723) (by decide +kernel) rfl⟩
abbrev mX12_lampsOf : o_M := (RX12, cX12_lampsOf, 5, some .int, [])
abbrev wX12_lampsOf : Cond := .code yX12_lampsOf cX12_lampsOf 5 (some .int)
theorem yw_X12_lampsOf : o_yw yX12_lampsOf wX12_lampsOf := ⟨o_gT (i := 1726) (by decide +kernel) rfl, o_gS (i := 57) (by decide +kernel) rfl, o_gT (i := 17) (by decide +kernel) rfl, o_gT (i := 1727) (by decide +kernel) rfl⟩
abbrev mX12_endsLeases : o_M := (RX12, cX12_endsLeases, 3, some .int, [])
abbrev wX12_endsLeases : Cond := .code yX12_endsLeases cX12_endsLeases 3 (some .int)
theorem yw_X12_endsLeases : o_yw yX12_endsLeases wX12_endsLeases := ⟨o_gT (i := 1731) (by decide +kernel) rfl, o_gS (i := 58) (by decide +kernel) rfl, o_gT (i := 17) (by decide +kernel) rfl, o_gT (i := 1732) (by decide +kernel) rfl⟩
abbrev mX12_hour : o_M := (RX12, cX12_hour, 1, some .int, [])
abbrev wX12_hour : Cond := .code yX12_hour cX12_hour 1 (some .int)
theorem yw_X12_hour : o_yw yX12_hour wX12_hour := ⟨o_gT (i := 1734) (by decide +kernel) rfl, o_gT (i := 1735) (by decide +kernel) rfl, o_gT (i := 17) (by decide +kernel) rfl, o_gT (i := 1736) (by decide +kernel) rfl⟩
abbrev mX12_shipCount : o_M := (RX12, cX12_shipCount, 1, some .int, [])
abbrev wX12_shipCount : Cond := .code yX12_shipCount cX12_shipCount 1 (some .int)
theorem yw_X12_shipCount : o_yw yX12_shipCount wX12_shipCount := ⟨o_gT (i := 1738) (by decide +kernel) rfl, o_gT (i := 1739) (by decide +kernel) rfl, o_gT (i := 17) (by decide +kernel) rfl, o_gT (i := 1740) (by decide +kernel) rfl⟩
abbrev mX12_coins : o_M := (RX12, cX12_coins, 2, some .int, [])
abbrev wX12_coins : Cond := .code yX12_coins cX12_coins 2 (some .int)
theorem yw_X12_coins : o_yw yX12_coins wX12_coins := ⟨o_gT (i := 1742) (by decide +kernel) rfl, o_gT (i := 1743) (by decide +kernel) rfl, o_gT (i := 17) (by decide +kernel) rfl, o_gT (i := 1744) (by decide +kernel) rfl⟩
abbrev mX12_isThere : o_M := (RX12, cX12_isThere, 2, some .boolean, [])
abbrev wX12_isThere : Cond := .code yX12_isThere cX12_isThere 2 (some .boolean)
theorem yw_X12_isThere : o_yw yX12_isThere wX12_isThere := ⟨o_gT (i := 1747) (by decide +kernel) rfl, o_gS (i := 59) (by decide +kernel) rfl, o_gT (i := 17) (by decide +kernel) rfl, o_gT (i := 1748) (by decide +kernel) rfl⟩
abbrev mX12_finesPaid : o_M := (RX12, cX12_finesPaid, 2, some .int, [])
abbrev wX12_finesPaid : Cond := .code yX12_finesPaid cX12_finesPaid 2 (some .int)
theorem yw_X12_finesPaid : o_yw yX12_finesPaid wX12_finesPaid := ⟨o_gT (i := 1750) (by decide +kernel) rfl, o_gT (i := 1751) (by decide +kernel) rfl, o_gT (i := 17) (by decide +kernel) rfl, o_gT (i := 1752) (by decide +kernel) rfl⟩
abbrev mX12_darkHours : o_M := (RX12, cX12_darkHours, 2, some .int, [])
abbrev wX12_darkHours : Cond := .code yX12_darkHours cX12_darkHours 2 (some .int)
theorem yw_X12_darkHours : o_yw yX12_darkHours wX12_darkHours := ⟨o_gT (i := 1754) (by decide +kernel) rfl, o_gT (i := 1755) (by decide +kernel) rfl, o_gT (i := 17) (by decide +kernel) rfl, o_gT (i := 1756) (by decide +kernel) rfl⟩
abbrev mX12_demand : o_M := (RX12, cX12_demand, 2, some .int, [])
abbrev wX12_demand : Cond := .code yX12_demand cX12_demand 2 (some .int)
theorem yw_X12_demand : o_yw yX12_demand wX12_demand := ⟨o_gT (i := 1758) (by decide +kernel) rfl, o_gT (i := 1759) (by decide +kernel) rfl, o_gT (i := 17) (by decide +kernel) rfl, o_gT (i := 1760) (by decide +kernel) rfl⟩
abbrev mX12_wants : o_M := (RX12, cX12_wants, 4, some .int, [])
abbrev wX12_wants : Cond := .code yX12_wants cX12_wants 4 (some .int)
theorem yw_X12_wants : o_yw yX12_wants wX12_wants := ⟨o_gT (i := 1763) (by decide +kernel) rfl, o_gS (i := 60) (by decide +kernel) rfl, o_gT (i := 17) (by decide +kernel) rfl, o_gT (i := 1764) (by decide +kernel) rfl⟩
abbrev mX12_leasesOf : o_M := (RX12, cX12_leasesOf, 2, some .int, [])
abbrev wX12_leasesOf : Cond := .code yX12_leasesOf cX12_leasesOf 2 (some .int)
theorem yw_X12_leasesOf : o_yw yX12_leasesOf wX12_leasesOf := ⟨o_gT (i := 1766) (by decide +kernel) rfl, o_gT (i := 1767) (by decide +kernel) rfl, o_gT (i := 17) (by decide +kernel) rfl, o_gT (i := 1768) (by decide +kernel) rfl⟩
abbrev mX12_lampCount : o_M := (RX12, cX12_lampCount, 1, some .int, [])
abbrev wX12_lampCount : Cond := .code yX12_lampCount cX12_lampCount 1 (some .int)
theorem yw_X12_lampCount : o_yw yX12_lampCount wX12_lampCount := ⟨o_gT (i := 1770) (by decide +kernel) rfl, o_gT (i := 1771) (by decide +kernel) rfl, o_gT (i := 17) (by decide +kernel) rfl, o_gT (i := 1772) (by decide +kernel) rfl⟩
abbrev mX12_level : o_M := (RX12, cX12_level, 2, some .int, [])
abbrev wX12_level : Cond := .code yX12_level cX12_level 2 (some .int)
theorem yw_X12_level : o_yw yX12_level wX12_level := ⟨o_gT (i := 1774) (by decide +kernel) rfl, o_gT (i := 1775) (by decide +kernel) rfl, o_gT (i := 17) (by decide +kernel) rfl, o_gT (i := 1776) (by decide +kernel) rfl⟩
abbrev mX12_isLeased : o_M := (RX12, cX12_isLeased, 2, some .boolean, [])
abbrev wX12_isLeased : Cond := .code yX12_isLeased cX12_isLeased 2 (some .boolean)
theorem yw_X12_isLeased : o_yw yX12_isLeased wX12_isLeased := ⟨o_gT (i := 1778) (by decide +kernel) rfl, o_gT (i := 1779) (by decide +kernel) rfl, o_gT (i := 17) (by decide +kernel) rfl, o_gT (i := 1780) (by decide +kernel) rfl⟩
abbrev mX12_lessee : o_M := (RX12, cX12_lessee, 2, some .int, [])
abbrev wX12_lessee : Cond := .code yX12_lessee cX12_lessee 2 (some .int)
theorem yw_X12_lessee : o_yw yX12_lessee wX12_lessee := ⟨o_gT (i := 1782) (by decide +kernel) rfl, o_gT (i := 1783) (by decide +kernel) rfl, o_gT (i := 17) (by decide +kernel) rfl, o_gT (i := 1784) (by decide +kernel) rfl⟩
abbrev mX12_endHour : o_M := (RX12, cX12_endHour, 2, some .int, [])
abbrev wX12_endHour : Cond := .code yX12_endHour cX12_endHour 2 (some .int)
theorem yw_X12_endHour : o_yw yX12_endHour wX12_endHour := ⟨o_gT (i := 1786) (by decide +kernel) rfl, o_gT (i := 1787) (by decide +kernel) rfl, o_gT (i := 17) (by decide +kernel) rfl, o_gT (i := 1788) (by decide +kernel) rfl⟩
abbrev mX12_brightHours : o_M := (RX12, cX12_brightHours, 2, some .int, [])
abbrev wX12_brightHours : Cond := .code yX12_brightHours cX12_brightHours 2 (some .int)
theorem yw_X12_brightHours : o_yw yX12_brightHours wX12_brightHours := ⟨o_gT (i := 1790) (by decide +kernel) rfl, o_gT (i := 1791) (by decide +kernel) rfl, o_gT (i := 17) (by decide +kernel) rfl, o_gT (i := 1792) (by decide +kernel) rfl⟩
abbrev mX12_wasBright : o_M := (RX12, cX12_wasBright, 2, some .boolean, [])
abbrev wX12_wasBright : Cond := .code yX12_wasBright cX12_wasBright 2 (some .boolean)
theorem yw_X12_wasBright : o_yw yX12_wasBright wX12_wasBright := ⟨o_gT (i := 1794) (by decide +kernel) rfl, o_gT (i := 1795) (by decide +kernel) rfl, o_gT (i := 17) (by decide +kernel) rfl, o_gT (i := 1796) (by decide +kernel) rfl⟩
abbrev mX12_leasedLamps : o_M := (RX12, cX12_leasedLamps, 1, some .int, [])
abbrev wX12_leasedLamps : Cond := .code yX12_leasedLamps cX12_leasedLamps 1 (some .int)
theorem yw_X12_leasedLamps : o_yw yX12_leasedLamps wX12_leasedLamps := ⟨o_gT (i := 1798) (by decide +kernel) rfl, o_gT (i := 1799) (by decide +kernel) rfl, o_gT (i := 17) (by decide +kernel) rfl, o_gT (i := 1800) (by decide +kernel) rfl⟩
abbrev mX12_leased : o_M := (RX12, cX12_leased, 3, some .int, [])
abbrev wX12_leased : Cond := .code yX12_leased cX12_leased 3 (some .int)
theorem yw_X12_leased : o_yw yX12_leased wX12_leased := ⟨o_gT (i := 1803) (by decide +kernel) rfl, o_gS (i := 61) (by decide +kernel) rfl, o_gT (i := 17) (by decide +kernel) rfl, o_gT (i := 1804) (by decide +kernel) rfl⟩
abbrev mX12_oil : o_M := (RX12, cX12_oil, 1, some .int, [])
abbrev wX12_oil : Cond := .code yX12_oil cX12_oil 1 (some .int)
theorem yw_X12_oil : o_yw yX12_oil wX12_oil := ⟨o_gT (i := 1806) (by decide +kernel) rfl, o_gT (i := 1807) (by decide +kernel) rfl, o_gT (i := 17) (by decide +kernel) rfl, o_gT (i := 1808) (by decide +kernel) rfl⟩
abbrev mX12_consumption : o_M := (RX12, cX12_consumption, 1, some .int, [])
abbrev wX12_consumption : Cond := .code yX12_consumption cX12_consumption 1 (some .int)
theorem yw_X12_consumption : o_yw yX12_consumption wX12_consumption := ⟨o_gT (i := 1810) (by decide +kernel) rfl, o_gT (i := 1811) (by decide +kernel) rfl, o_gT (i := 17) (by decide +kernel) rfl, o_gT (i := 1812) (by decide +kernel) rfl⟩
abbrev mX12_needed : o_M := (RX12, cX12_needed, 3, some .int, [])
abbrev wX12_needed : Cond := .code yX12_needed cX12_needed 3 (some .int)
theorem yw_X12_needed : o_yw yX12_needed wX12_needed := ⟨o_gT (i := 1815) (by decide +kernel) rfl, o_gS (i := 62) (by decide +kernel) rfl, o_gT (i := 17) (by decide +kernel) rfl, o_gT (i := 1816) (by decide +kernel) rfl⟩
abbrev mX12_hoursOfOil : o_M := (RX12, cX12_hoursOfOil, 4, some .int, [])
abbrev wX12_hoursOfOil : Cond := .code yX12_hoursOfOil cX12_hoursOfOil 4 (some .int)
theorem yw_X12_hoursOfOil : o_yw yX12_hoursOfOil wX12_hoursOfOil := ⟨o_gT (i := 1818) (by decide +kernel) rfl, o_gT (i := 1819) (by decide +kernel) rfl, o_gT (i := 17) (by decide +kernel) rfl, o_gT (i := 1820) (by decide +kernel) rfl⟩
abbrev mX12_hoursOfOilByEnds : o_M := (RX12, cX12_hoursOfOilByEnds, 1, some .int, [])
abbrev wX12_hoursOfOilByEnds : Cond := .code yX12_hoursOfOilByEnds cX12_hoursOfOilByEnds 1 (some .int)
theorem yw_X12_hoursOfOilByEnds : o_yw yX12_hoursOfOilByEnds wX12_hoursOfOilByEnds := ⟨o_gT (i := 1822) (by decide +kernel) rfl, o_gT (i := 1823) (by decide +kernel) rfl, o_gT (i := 17) (by decide +kernel) rfl, o_gT (i := 1824) (by decide +kernel) rfl⟩
abbrev mX12_brightNext : o_M := (RX12, cX12_brightNext, 2, some .int, [])
abbrev wX12_brightNext : Cond := .code yX12_brightNext cX12_brightNext 2 (some .int)
theorem yw_X12_brightNext : o_yw yX12_brightNext wX12_brightNext := ⟨o_gT (i := 1827) (by decide +kernel) rfl, o_gT (i := 1828) (by decide +kernel) rfl, o_gT (i := 17) (by decide +kernel) rfl, o_gT (i := 1829) (by decide +kernel) rfl⟩
abbrev mX12_mostBright : o_M := (RX12, cX12_mostBright, 6, some .int, [])
abbrev wX12_mostBright : Cond := .code yX12_mostBright cX12_mostBright 6 (some .int)
theorem yw_X12_mostBright : o_yw yX12_mostBright wX12_mostBright := ⟨o_gT (i := 1831) (by decide +kernel) rfl, o_gT (i := 1832) (by decide +kernel) rfl, o_gT (i := 17) (by decide +kernel) rfl, o_gT (i := 1833) (by decide +kernel) rfl⟩
abbrev mX12_mostBrightBySums : o_M := (RX12, cX12_mostBrightBySums, 1, some .int, [])
abbrev wX12_mostBrightBySums : Cond := .code yX12_mostBrightBySums cX12_mostBrightBySums 1 (some .int)
theorem yw_X12_mostBrightBySums : o_yw yX12_mostBrightBySums wX12_mostBrightBySums := ⟨o_gT (i := 1835) (by decide +kernel) rfl, o_gT (i := 1836) (by decide +kernel) rfl, o_gT (i := 17) (by decide +kernel) rfl, o_gT (i := 1837) (by decide +kernel) rfl⟩
abbrev mX12_share : o_M := (RX12, cX12_share, 2, some .int, [])
abbrev wX12_share : Cond := .code yX12_share cX12_share 2 (some .int)
theorem yw_X12_share : o_yw yX12_share wX12_share := ⟨o_gT (i := 1840) (by decide +kernel) rfl, o_gT (i := 1841) (by decide +kernel) rfl, o_gT (i := 17) (by decide +kernel) rfl, o_gT (i := 1842) (by decide +kernel) rfl⟩
abbrev mX12_partOf : o_M := (RX12, cX12_partOf, 8, some .int, [])
abbrev wX12_partOf : Cond := .code yX12_partOf cX12_partOf 8 (some .int)
theorem yw_X12_partOf : o_yw yX12_partOf wX12_partOf := ⟨o_gT (i := 1845) (by decide +kernel) rfl, o_gS (i := 63) (by decide +kernel) rfl, o_gT (i := 17) (by decide +kernel) rfl, o_gT (i := 1846) (by decide +kernel) rfl⟩
abbrev mX12_shareByRank : o_M := (RX12, cX12_shareByRank, 2, some .int, [])
abbrev wX12_shareByRank : Cond := .code yX12_shareByRank cX12_shareByRank 2 (some .int)
theorem yw_X12_shareByRank : o_yw yX12_shareByRank wX12_shareByRank := ⟨o_gT (i := 1848) (by decide +kernel) rfl, o_gT (i := 1849) (by decide +kernel) rfl, o_gT (i := 17) (by decide +kernel) rfl, o_gT (i := 1850) (by decide +kernel) rfl⟩
abbrev mX12_requestCount : o_M := (RX12, cX12_requestCount, 1, some .int, [])
abbrev wX12_requestCount : Cond := .code yX12_requestCount cX12_requestCount 1 (some .int)
theorem yw_X12_requestCount : o_yw yX12_requestCount wX12_requestCount := ⟨o_gT (i := 1853) (by decide +kernel) rfl, o_gT (i := 1854) (by decide +kernel) rfl, o_gT (i := 17) (by decide +kernel) rfl, o_gT (i := 1855) (by decide +kernel) rfl⟩
abbrev mX12_requestedLamp : o_M := (RX12, cX12_requestedLamp, 2, some .int, [])
abbrev wX12_requestedLamp : Cond := .code yX12_requestedLamp cX12_requestedLamp 2 (some .int)
theorem yw_X12_requestedLamp : o_yw yX12_requestedLamp wX12_requestedLamp := ⟨o_gT (i := 1857) (by decide +kernel) rfl, o_gT (i := 1858) (by decide +kernel) rfl, o_gT (i := 17) (by decide +kernel) rfl, o_gT (i := 1859) (by decide +kernel) rfl⟩
abbrev mX12_isRequest : o_M := (RX12, cX12_isRequest, 2, some .boolean, [])
abbrev wX12_isRequest : Cond := .code yX12_isRequest cX12_isRequest 2 (some .boolean)
theorem yw_X12_isRequest : o_yw yX12_isRequest wX12_isRequest := ⟨o_gT (i := 1862) (by decide +kernel) rfl, o_gS (i := 64) (by decide +kernel) rfl, o_gT (i := 17) (by decide +kernel) rfl, o_gT (i := 1863) (by decide +kernel) rfl⟩
abbrev mX12_requestedHours : o_M := (RX12, cX12_requestedHours, 2, some .int, [])
abbrev wX12_requestedHours : Cond := .code yX12_requestedHours cX12_requestedHours 2 (some .int)
theorem yw_X12_requestedHours : o_yw yX12_requestedHours wX12_requestedHours := ⟨o_gT (i := 1865) (by decide +kernel) rfl, o_gT (i := 1866) (by decide +kernel) rfl, o_gT (i := 17) (by decide +kernel) rfl, o_gT (i := 1867) (by decide +kernel) rfl⟩
abbrev mX12_refusedRenewals : o_M := (RX12, cX12_refusedRenewals, 1, some .int, [])
abbrev wX12_refusedRenewals : Cond := .code yX12_refusedRenewals cX12_refusedRenewals 1 (some .int)
theorem yw_X12_refusedRenewals : o_yw yX12_refusedRenewals wX12_refusedRenewals := ⟨o_gT (i := 1869) (by decide +kernel) rfl, o_gT (i := 1870) (by decide +kernel) rfl, o_gT (i := 17) (by decide +kernel) rfl, o_gT (i := 1871) (by decide +kernel) rfl⟩
abbrev mX12_officeCoins : o_M := (RX12, cX12_officeCoins, 1, some .int, [])
abbrev wX12_officeCoins : Cond := .code yX12_officeCoins cX12_officeCoins 1 (some .int)
theorem yw_X12_officeCoins : o_yw yX12_officeCoins wX12_officeCoins := ⟨o_gT (i := 1873) (by decide +kernel) rfl, o_gT (i := 1874) (by decide +kernel) rfl, o_gT (i := 17) (by decide +kernel) rfl, o_gT (i := 1875) (by decide +kernel) rfl⟩
abbrev mX12_shipByFines : o_M := (RX12, cX12_shipByFines, 9, some .int, [])
abbrev wX12_shipByFines : Cond := .code yX12_shipByFines cX12_shipByFines 9 (some .int)
theorem yw_X12_shipByFines : o_yw yX12_shipByFines wX12_shipByFines := ⟨o_gT (i := 1877) (by decide +kernel) rfl, o_gT (i := 1878) (by decide +kernel) rfl, o_gT (i := 17) (by decide +kernel) rfl, o_gT (i := 1879) (by decide +kernel) rfl⟩
abbrev mX12_lampByEnd : o_M := (RX12, cX12_lampByEnd, 10, some .int, [])
abbrev wX12_lampByEnd : Cond := .code yX12_lampByEnd cX12_lampByEnd 10 (some .int)
theorem yw_X12_lampByEnd : o_yw yX12_lampByEnd wX12_lampByEnd := ⟨o_gT (i := 1881) (by decide +kernel) rfl, o_gT (i := 1882) (by decide +kernel) rfl, o_gT (i := 17) (by decide +kernel) rfl, o_gT (i := 1883) (by decide +kernel) rfl⟩
abbrev mX12_meanCoins : o_M := (RX12, cX12_meanCoins, 4, some .double, [])
abbrev wX12_meanCoins : Cond := .code yX12_meanCoins cX12_meanCoins 4 (some .double)
theorem yw_X12_meanCoins : o_yw yX12_meanCoins wX12_meanCoins := ⟨o_gT (i := 1885) (by decide +kernel) rfl, o_gT (i := 1886) (by decide +kernel) rfl, o_gT (i := 17) (by decide +kernel) rfl, o_gT (i := 1887) (by decide +kernel) rfl⟩
abbrev mX12_leasedShare : o_M := (RX12, cX12_leasedShare, 2, some .float, [])
abbrev wX12_leasedShare : Cond := .code yX12_leasedShare cX12_leasedShare 2 (some .float)
theorem yw_X12_leasedShare : o_yw yX12_leasedShare wX12_leasedShare := ⟨o_gT (i := 1889) (by decide +kernel) rfl, o_gT (i := 1890) (by decide +kernel) rfl, o_gT (i := 17) (by decide +kernel) rfl, o_gT (i := 1891) (by decide +kernel) rfl⟩
abbrev mX12_isConsistent : o_M := (RX12, cX12_isConsistent, 1, some .boolean, [])
abbrev wX12_isConsistent : Cond := .code yX12_isConsistent cX12_isConsistent 1 (some .boolean)
theorem yw_X12_isConsistent : o_yw yX12_isConsistent wX12_isConsistent := ⟨o_gT (i := 1893) (by decide +kernel) rfl, o_gT (i := 1894) (by decide +kernel) rfl, o_gT (i := 17) (by decide +kernel) rfl, o_gT (i := 1895) (by decide +kernel) rfl⟩
abbrev mX12_writeLamps : o_M := (RX12, cX12_writeLamps, 2, some .int, [])
abbrev wX12_writeLamps : Cond := .code yX12_writeLamps cX12_writeLamps 2 (some .int)
theorem yw_X12_writeLamps : o_yw yX12_writeLamps wX12_writeLamps := ⟨o_gT (i := 1897) (by decide +kernel) rfl, o_gT (i := 1898) (by decide +kernel) rfl, o_gT (i := 17) (by decide +kernel) rfl, o_gT (i := 1899) (by decide +kernel) rfl⟩
abbrev mX12_says : o_M := (RX12, cX12_says, 2, none, [])
abbrev wX12_says : Cond := .code yX12_says cX12_says 2 (none)
theorem yw_X12_says : o_yw yX12_says wX12_says := ⟨o_gT (i := 1902) (by decide +kernel) rfl, o_gS (i := 65) (by decide +kernel) rfl, o_gT (i := 17) (by decide +kernel) rfl, o_gT (i := 1903) (by decide +kernel) rfl⟩
abbrev mX12_saysNumber : o_M := (RX12, cX12_saysNumber, 2, none, [])
abbrev wX12_saysNumber : Cond := .code yX12_saysNumber cX12_saysNumber 2 (none)
theorem yw_X12_saysNumber : o_yw yX12_saysNumber wX12_saysNumber := ⟨o_gT (i := 1906) (by decide +kernel) rfl, o_gS (i := 66) (by decide +kernel) rfl, o_gT (i := 17) (by decide +kernel) rfl, o_gT (i := 1907) (by decide +kernel) rfl⟩
abbrev mX12_outputChar : o_M := (RX12, cX12_outputChar, 2, some .char, [])
abbrev wX12_outputChar : Cond := .code yX12_outputChar cX12_outputChar 2 (some .char)
theorem yw_X12_outputChar : o_yw yX12_outputChar wX12_outputChar := ⟨o_gT (i := 1909) (by decide +kernel) rfl, o_gT (i := 1910) (by decide +kernel) rfl, o_gT (i := 17) (by decide +kernel) rfl, o_gT (i := 1911) (by decide +kernel) rfl⟩
abbrev mX12_feed : o_M := (RX12, cX12_feed, 2, some .int, [])
abbrev wX12_feed : Cond := .code yX12_feed cX12_feed 2 (some .int)
theorem yw_X12_feed : o_yw yX12_feed wX12_feed := ⟨o_gT (i := 1913) (by decide +kernel) rfl, o_gT (i := 1914) (by decide +kernel) rfl, o_gT (i := 17) (by decide +kernel) rfl, o_gT (i := 1915) (by decide +kernel) rfl⟩
abbrev mX12_runCommands : o_M := (RX12, cX12_runCommands, 3, some .int, [])
abbrev wX12_runCommands : Cond := .code yX12_runCommands cX12_runCommands 3 (some .int)
theorem yw_X12_runCommands : o_yw yX12_runCommands wX12_runCommands := ⟨o_gT (i := 1917) (by decide +kernel) rfl, o_gT (i := 1918) (by decide +kernel) rfl, o_gT (i := 17) (by decide +kernel) rfl, o_gT (i := 1919) (by decide +kernel) rfl⟩
abbrev mX12_readCommand : o_M := (RX12, cX12_readCommand, 4, none, [])
abbrev wX12_readCommand : Cond := .code yX12_readCommand cX12_readCommand 4 (none)
theorem yw_X12_readCommand : o_yw yX12_readCommand wX12_readCommand := ⟨o_gT (i := 1922) (by decide +kernel) rfl, o_gS (i := 67) (by decide +kernel) rfl, o_gT (i := 17) (by decide +kernel) rfl, o_gT (i := 1923) (by decide +kernel) rfl⟩
abbrev mX12_behind : o_M := (RX12, cX12_behind, 2, some .int, [])
abbrev wX12_behind : Cond := .code yX12_behind cX12_behind 2 (some .int)
theorem yw_X12_behind : o_yw yX12_behind wX12_behind := ⟨o_gT (i := 1926) (by decide +kernel) rfl, o_gS (i := 68) (by decide +kernel) rfl, o_gT (i := 17) (by decide +kernel) rfl, o_gT (i := 1927) (by decide +kernel) rfl⟩
abbrev mX12_skip : o_M := (RX12, cX12_skip, 3, none, [])
abbrev wX12_skip : Cond := .code yX12_skip cX12_skip 3 (none)
theorem yw_X12_skip : o_yw yX12_skip wX12_skip := ⟨o_gT (i := 1932) (by decide +kernel) rfl, o_gS (i := 69) (by decide +kernel) rfl, o_gT (i := 17) (by decide +kernel) rfl, o_gT (i := 1933) (by decide +kernel) rfl⟩
abbrev mX12_readNumber : o_M := (RX12, cX12_readNumber, 4, some .int, [])
abbrev wX12_readNumber : Cond := .code yX12_readNumber cX12_readNumber 4 (some .int)
theorem yw_X12_readNumber : o_yw yX12_readNumber wX12_readNumber := ⟨o_gT (i := 1938) (by decide +kernel) rfl, o_gS (i := 70) (by decide +kernel) rfl, o_gT (i := 17) (by decide +kernel) rfl, o_gT (i := 1939) (by decide +kernel) rfl⟩
abbrev mX12_isDigit : o_M := (RX12, cX12_isDigit, 1, some .boolean, [])
abbrev wX12_isDigit : Cond := .code yX12_isDigit cX12_isDigit 1 (some .boolean)
theorem yw_X12_isDigit : o_yw yX12_isDigit wX12_isDigit := ⟨o_gT (i := 1943) (by decide +kernel) rfl, o_gS (i := 71) (by decide +kernel) rfl, o_gT (i := 17) (by decide +kernel) rfl, o_gT (i := 1944) (by decide +kernel) rfl⟩
abbrev mX12_does : o_M := (RX12, cX12_does, 5, some (.object "java/lang/String"), [])
abbrev wX12_does : Cond := .code yX12_does cX12_does 5 (some (.object "java/lang/String"))
theorem yw_X12_does : o_yw yX12_does wX12_does := ⟨o_gT (i := 1952) (by decide +kernel) rfl, o_gS (i := 72) (by decide +kernel) rfl, o_gT (i := 17) (by decide +kernel) rfl, o_gT (i := 1953) (by decide +kernel) rfl⟩
abbrev mX12_errorPosition : o_M := (RX12, cX12_errorPosition, 1, some .int, [])
abbrev wX12_errorPosition : Cond := .code yX12_errorPosition cX12_errorPosition 1 (some .int)
theorem yw_X12_errorPosition : o_yw yX12_errorPosition wX12_errorPosition := ⟨o_gT (i := 1961) (by decide +kernel) rfl, o_gT (i := 1962) (by decide +kernel) rfl, o_gT (i := 17) (by decide +kernel) rfl, o_gT (i := 1963) (by decide +kernel) rfl⟩
abbrev mX12_failedCommand : o_M := (RX12, cX12_failedCommand, 1, some .int, [])
abbrev wX12_failedCommand : Cond := .code yX12_failedCommand cX12_failedCommand 1 (some .int)
theorem yw_X12_failedCommand : o_yw yX12_failedCommand wX12_failedCommand := ⟨o_gT (i := 1965) (by decide +kernel) rfl, o_gT (i := 1966) (by decide +kernel) rfl, o_gT (i := 17) (by decide +kernel) rfl, o_gT (i := 1967) (by decide +kernel) rfl⟩
abbrev mX12_failureReason : o_M := (RX12, cX12_failureReason, 1, some .char, [])
abbrev wX12_failureReason : Cond := .code yX12_failureReason cX12_failureReason 1 (some .char)
theorem yw_X12_failureReason : o_yw yX12_failureReason wX12_failureReason := ⟨o_gT (i := 1969) (by decide +kernel) rfl, o_gT (i := 1970) (by decide +kernel) rfl, o_gT (i := 17) (by decide +kernel) rfl, o_gT (i := 1971) (by decide +kernel) rfl⟩
abbrev mX12_undoCount : o_M := (RX12, cX12_undoCount, 1, some .int, [])
abbrev wX12_undoCount : Cond := .code yX12_undoCount cX12_undoCount 1 (some .int)
theorem yw_X12_undoCount : o_yw yX12_undoCount wX12_undoCount := ⟨o_gT (i := 1973) (by decide +kernel) rfl, o_gT (i := 1974) (by decide +kernel) rfl, o_gT (i := 17) (by decide +kernel) rfl, o_gT (i := 1975) (by decide +kernel) rfl⟩
abbrev mX12_undo : o_M := (RX12, cX12_undo, 1, some .int, [])
abbrev wX12_undo : Cond := .code yX12_undo cX12_undo 1 (some .int)
theorem yw_X12_undo : o_yw yX12_undo wX12_undo := ⟨o_gT (i := 1977) (by decide +kernel) rfl, o_gT (i := 1978) (by decide +kernel) rfl, o_gT (i := 17) (by decide +kernel) rfl, o_gT (i := 1979) (by decide +kernel) rfl⟩
abbrev mX12_save : o_M := (RX12, cX12_save, 1, some .int, [])
abbrev wX12_save : Cond := .code yX12_save cX12_save 1 (some .int)
theorem yw_X12_save : o_yw yX12_save wX12_save := ⟨o_gT (i := 1981) (by decide +kernel) rfl, o_gT (i := 1982) (by decide +kernel) rfl, o_gT (i := 17) (by decide +kernel) rfl, o_gT (i := 1983) (by decide +kernel) rfl⟩
abbrev mX12_restore : o_M := (RX12, cX12_restore, 1, some .int, [])
abbrev wX12_restore : Cond := .code yX12_restore cX12_restore 1 (some .int)
theorem yw_X12_restore : o_yw yX12_restore wX12_restore := ⟨o_gT (i := 1985) (by decide +kernel) rfl, o_gT (i := 1986) (by decide +kernel) rfl, o_gT (i := 17) (by decide +kernel) rfl, o_gT (i := 1987) (by decide +kernel) rfl⟩
theorem ml_L_139 : Cond.methodLink RL 139 yX11_init ∈ o_gW := o_gT (i := 40) (by decide +kernel) rfl
theorem ml_X11_24 : Cond.methodLink RX11 24 yX5_init ∈ o_gW := o_gT (i := 180) (by decide +kernel) rfl
theorem ml_X11_45 : Cond.methodLink RX11 45 yX2_init ∈ o_gW := o_gT (i := 229) (by decide +kernel) rfl
theorem ml_X11_52 : Cond.methodLink RX11 52 yJ4_init_da8c8 ∈ o_gW := o_gT (i := 274) (by decide +kernel) rfl
theorem ml_J4_1 : Cond.methodLink RJ4 1 yJ5_init_d00df ∈ o_gW := o_gT (i := 277) (by decide +kernel) rfl
theorem ml_J5_26 : Cond.methodLink RJ5 26 yJ2_newBytesFor_77867 ∈ o_gW := o_gT (i := 283) (by decide +kernel) rfl
theorem ml_J2_11 : Cond.methodLink RJ2 11 yJ2_newBytesLength_0f7a4 ∈ o_gW := o_gT (i := 286) (by decide +kernel) rfl
theorem ml_L_173 : Cond.methodLink RL 173 yX11_hour ∈ o_gW := o_gT (i := 342) (by decide +kernel) rfl
theorem ml_L_177 : Cond.methodLink RL 177 yX11_shipCount ∈ o_gW := o_gT (i := 346) (by decide +kernel) rfl
theorem ml_L_196 : Cond.methodLink RL 196 yX11_lampCount ∈ o_gW := o_gT (i := 350) (by decide +kernel) rfl
theorem ml_L_218 : Cond.methodLink RL 218 yX11_leasedLamps ∈ o_gW := o_gT (i := 354) (by decide +kernel) rfl
theorem ml_X11_192 : Cond.methodLink RX11 192 yX7_countTaken ∈ o_gW := o_gT (i := 358) (by decide +kernel) rfl
theorem ml_X7_32 : Cond.methodLink RX7 32 yX7_isTaken ∈ o_gW := o_gT (i := 362) (by decide +kernel) rfl
theorem ml_L_222 : Cond.methodLink RL 222 yX11_oil ∈ o_gW := o_gT (i := 366) (by decide +kernel) rfl
theorem ml_L_226 : Cond.methodLink RL 226 yX11_consumption ∈ o_gW := o_gT (i := 370) (by decide +kernel) rfl
theorem ml_X11_198 : Cond.methodLink RX11 198 yX7_demandOfAll ∈ o_gW := o_gT (i := 374) (by decide +kernel) rfl
theorem ml_L_236 : Cond.methodLink RL 236 yX11_brightNext ∈ o_gW := o_gT (i := 378) (by decide +kernel) rfl
theorem ml_X11_211 : Cond.methodLink RX11 211 yX4_nextBrightLamps ∈ o_gW := o_gT (i := 382) (by decide +kernel) rfl
theorem ml_X4_40 : Cond.methodLink RX4 40 yX7_isTaken ∈ o_gW := o_gT (i := 386) (by decide +kernel) rfl
theorem ml_L_240 : Cond.methodLink RL 240 yX11_mostBright ∈ o_gW := o_gT (i := 387) (by decide +kernel) rfl
theorem ml_X11_214 : Cond.methodLink RX11 214 yX4_mostLampsByLevels ∈ o_gW := o_gT (i := 391) (by decide +kernel) rfl
theorem ml_L_244 : Cond.methodLink RL 244 yX11_mostBrightBySums ∈ o_gW := o_gT (i := 395) (by decide +kernel) rfl
theorem ml_X11_217 : Cond.methodLink RX11 217 yX4_mostLampsByTable ∈ o_gW := o_gT (i := 399) (by decide +kernel) rfl
theorem ml_X4_47 : Cond.methodLink RX4 47 yX4_clearTable ∈ o_gW := o_gT (i := 403) (by decide +kernel) rfl
theorem ml_X4_50 : Cond.methodLink RX4 50 yX4_enterInTable ∈ o_gW := o_gT (i := 407) (by decide +kernel) rfl
theorem ml_X4_54 : Cond.methodLink RX4 54 yJ9_max_7cf53 ∈ o_gW := o_gT (i := 411) (by decide +kernel) rfl
theorem ml_L_254 : Cond.methodLink RL 254 yX11_requestCount ∈ o_gW := o_gT (i := 414) (by decide +kernel) rfl
theorem ml_L_264 : Cond.methodLink RL 264 yX11_refusedRenewals ∈ o_gW := o_gT (i := 418) (by decide +kernel) rfl
theorem ml_L_268 : Cond.methodLink RL 268 yX11_officeCoins ∈ o_gW := o_gT (i := 422) (by decide +kernel) rfl
theorem ml_L_285 : Cond.methodLink RL 285 yX11_isConsistent ∈ o_gW := o_gT (i := 426) (by decide +kernel) rfl
theorem ml_X11_258 : Cond.methodLink RX11 258 yX11_coinsAddUp ∈ o_gW := o_gT (i := 430) (by decide +kernel) rfl
theorem ml_X11_253 : Cond.methodLink RX11 253 yX9_sumOfCoins ∈ o_gW := o_gT (i := 434) (by decide +kernel) rfl
theorem ml_X11_262 : Cond.methodLink RX11 262 yX11_sharesAgree ∈ o_gW := o_gT (i := 438) (by decide +kernel) rfl
theorem ml_X11_220 : Cond.methodLink RX11 220 yX3_shareByGiving ∈ o_gW := o_gT (i := 442) (by decide +kernel) rfl
theorem ml_X3_28 : Cond.methodLink RX3 28 yX9_exists ∈ o_gW := o_gT (i := 446) (by decide +kernel) rfl
theorem ml_X3_34 : Cond.methodLink RX3 34 yX3_divideRoundedDown ∈ o_gW := o_gT (i := 450) (by decide +kernel) rfl
theorem ml_X3_57 : Cond.methodLink RX3 57 yX7_demandOfAll ∈ o_gW := o_gT (i := 454) (by decide +kernel) rfl
theorem ml_X3_66 : Cond.methodLink RX3 66 yX7_demandOf ∈ o_gW := o_gT (i := 455) (by decide +kernel) rfl
theorem ml_X7_36 : Cond.methodLink RX7 36 yX7_isTakenBy ∈ o_gW := o_gT (i := 459) (by decide +kernel) rfl
theorem ml_X3_45 : Cond.methodLink RX3 45 yX3_giveOneUnit ∈ o_gW := o_gT (i := 463) (by decide +kernel) rfl
theorem ml_X11_224 : Cond.methodLink RX11 224 yX3_shareByRemainderRank ∈ o_gW := o_gT (i := 467) (by decide +kernel) rfl
theorem ml_X3_49 : Cond.methodLink RX3 49 yX3_rankOf ∈ o_gW := o_gT (i := 471) (by decide +kernel) rfl
theorem ml_X11_265 : Cond.methodLink RX11 265 yX11_sharesAddUp ∈ o_gW := o_gT (i := 475) (by decide +kernel) rfl
theorem ml_X11_268 : Cond.methodLink RX11 268 yX11_brightnessAgrees ∈ o_gW := o_gT (i := 479) (by decide +kernel) rfl
theorem ml_X11_271 : Cond.methodLink RX11 271 yX11_requestsAreForLeasedLamps ∈ o_gW := o_gT (i := 483) (by decide +kernel) rfl
theorem ml_X11_175 : Cond.methodLink RX11 175 yX7_isTaken ∈ o_gW := o_gT (i := 487) (by decide +kernel) rfl
theorem ml_L_306 : Cond.methodLink RL 306 yX11_writeLamps ∈ o_gW := o_gT (i := 488) (by decide +kernel) rfl
theorem ml_X11_347 : Cond.methodLink RX11 347 yJ4_setLength_d00df ∈ o_gW := o_gT (i := 492) (by decide +kernel) rfl
theorem ml_J4_333 : Cond.methodLink RJ4 333 yJ5_setLength_d00df ∈ o_gW := o_gT (i := 496) (by decide +kernel) rfl
theorem ml_J5_131 : Cond.methodLink RJ5 131 yJx7c733_init_d00df ∈ o_gW := o_gT (i := 501) (by decide +kernel) rfl
theorem ml_Jx7c733_12 : Cond.methodLink RJx7c733 12 yJ4_init_da8c8 ∈ o_gW := o_gT (i := 505) (by decide +kernel) rfl
theorem ml_Jx7c733_15 : Cond.methodLink RJx7c733 15 yJ4_append_15ec4 ∈ o_gW := o_gT (i := 507) (by decide +kernel) rfl
theorem ml_J4_29 : Cond.methodLink RJ4 29 yJ5_append_cf1ce ∈ o_gW := o_gT (i := 511) (by decide +kernel) rfl
theorem ml_J5_204 : Cond.methodLink RJ5 204 yJ5_appendNull_278bc ∈ o_gW := o_gT (i := 514) (by decide +kernel) rfl
theorem ml_J5_100 : Cond.methodLink RJ5 100 yJ5_ensureCapacityInternal_d00df ∈ o_gW := o_gT (i := 518) (by decide +kernel) rfl
theorem ml_J5_104 : Cond.methodLink RJ5 104 yJ5_newCapacity_0f7a4 ∈ o_gW := o_gT (i := 522) (by decide +kernel) rfl
theorem ml_J5_114 : Cond.methodLink RJ5 114 yJ8_newLength_cabcc ∈ o_gW := o_gT (i := 526) (by decide +kernel) rfl
theorem ml_J8_194 : Cond.methodLink RJ8 194 yJ9_max_7cf53 ∈ o_gW := o_gT (i := 529) (by decide +kernel) rfl
theorem ml_J8_201 : Cond.methodLink RJ8 201 yJ8_hugeLength_7cf53 ∈ o_gW := o_gT (i := 531) (by decide +kernel) rfl
theorem ml_J5_108 : Cond.methodLink RJ5 108 yJ7_copyOf_9075b ∈ o_gW := o_gT (i := 535) (by decide +kernel) rfl
theorem ml_J7_304 : Cond.methodLink RJ7 304 yJ9_min_7cf53 ∈ o_gW := o_gT (i := 545) (by decide +kernel) rfl
theorem ml_J5_83 : Cond.methodLink RJ5 83 yJ5_isLatin1_aae02 ∈ o_gW := o_gT (i := 551) (by decide +kernel) rfl
theorem ml_J5_226 : Cond.methodLink RJ5 226 yJ2_putCharsAt_cd4e5 ∈ o_gW := o_gT (i := 556) (by decide +kernel) rfl
theorem ml_J2_96 : Cond.methodLink RJ2 96 yJ2_checkBoundsBeginEnd_d044e ∈ o_gW := o_gT (i := 559) (by decide +kernel) rfl
theorem ml_J2_48 : Cond.methodLink RJ2 48 yJ2_length_9d52b ∈ o_gW := o_gT (i := 562) (by decide +kernel) rfl
theorem ml_J2_241 : Cond.methodLink RJ2 241 yJ0_checkBoundsBeginEnd_23922 ∈ o_gW := o_gT (i := 565) (by decide +kernel) rfl
theorem ml_J0_1062 : Cond.methodLink RJ0 1062 yJ3_checkFromToIndex_8c36e ∈ o_gW := o_gT (i := 570) (by decide +kernel) rfl
theorem ml_J2_111 : Cond.methodLink RJ2 111 yJ2_putChar_b72d1 ∈ o_gW := o_gT (i := 573) (by decide +kernel) rfl
theorem ml_J5_32 : Cond.methodLink RJ5 32 yJ0_length_8abf5 ∈ o_gW := o_gT (i := 582) (by decide +kernel) rfl
theorem ml_J0_335 : Cond.methodLink RJ0 335 yJ0_coder_7d493 ∈ o_gW := o_gT (i := 586) (by decide +kernel) rfl
theorem ml_J5_208 : Cond.methodLink RJ5 208 yJ5_putStringAt_47b60 ∈ o_gW := o_gT (i := 591) (by decide +kernel) rfl
theorem ml_J5_397 : Cond.methodLink RJ5 397 yJ5_inflateIfNeededFor_a7421 ∈ o_gW := o_gT (i := 595) (by decide +kernel) rfl
theorem ml_J5_40 : Cond.methodLink RJ5 40 yJ0_coder_7d493 ∈ o_gW := o_gT (i := 599) (by decide +kernel) rfl
theorem ml_J5_195 : Cond.methodLink RJ5 195 yJ5_inflate_da8c8 ∈ o_gW := o_gT (i := 600) (by decide +kernel) rfl
theorem ml_J5_125 : Cond.methodLink RJ5 125 yJ1_inflate_0e8fd ∈ o_gW := o_gT (i := 604) (by decide +kernel) rfl
theorem ml_J1_240 : Cond.methodLink RJ1 240 yJ2_inflate_0e8fd ∈ o_gW := o_gT (i := 607) (by decide +kernel) rfl
theorem ml_J2_173 : Cond.methodLink RJ2 173 yJ2_checkBoundsOffCount_d044e ∈ o_gW := o_gT (i := 610) (by decide +kernel) rfl
theorem ml_J2_419 : Cond.methodLink RJ2 419 yJ0_checkBoundsOffCount_cabcc ∈ o_gW := o_gT (i := 613) (by decide +kernel) rfl
theorem ml_J0_1065 : Cond.methodLink RJ0 1065 yJ3_checkFromIndexSize_8c36e ∈ o_gW := o_gT (i := 616) (by decide +kernel) rfl
theorem ml_J5_399 : Cond.methodLink RJ5 399 yJ0_getBytes_840e7 ∈ o_gW := o_gT (i := 619) (by decide +kernel) rfl
theorem ml_J0_106 : Cond.methodLink RJ0 106 yJ1_inflate_0e8fd ∈ o_gW := o_gT (i := 624) (by decide +kernel) rfl
theorem ml_Jx7c733_19 : Cond.methodLink RJx7c733 19 yJ4_append_bf812 ∈ o_gW := o_gT (i := 625) (by decide +kernel) rfl
theorem ml_J4_53 : Cond.methodLink RJ4 53 yJ5_append_c97b9 ∈ o_gW := o_gT (i := 629) (by decide +kernel) rfl
theorem ml_J5_245 : Cond.methodLink RJ5 245 yJ6_stringSize_0f7a4 ∈ o_gW := o_gT (i := 632) (by decide +kernel) rfl
theorem ml_J5_248 : Cond.methodLink RJ5 248 yJ6_getChars_ba4f3 ∈ o_gW := o_gT (i := 635) (by decide +kernel) rfl
theorem ml_J5_251 : Cond.methodLink RJ5 251 yJ2_getChars_46870 ∈ o_gW := o_gT (i := 642) (by decide +kernel) rfl
theorem ml_J2_393 : Cond.methodLink RJ2 393 yJ2_getChars_ba4f3 ∈ o_gW := o_gT (i := 645) (by decide +kernel) rfl
theorem ml_Jx7c733_22 : Cond.methodLink RJx7c733 22 yJ4_toString_0e30d ∈ o_gW := o_gT (i := 650) (by decide +kernel) rfl
theorem ml_J4_137 : Cond.methodLink RJ4 137 yJ0_init_81219 ∈ o_gW := o_gT (i := 656) (by decide +kernel) rfl
theorem ml_J0_489 : Cond.methodLink RJ0 489 yJ0_init_db425 ∈ o_gW := o_gT (i := 659) (by decide +kernel) rfl
theorem ml_J0_552 : Cond.methodLink RJ0 552 yJ5_getValue_6d5f1 ∈ o_gW := o_gT (i := 663) (by decide +kernel) rfl
theorem ml_J0_549 : Cond.methodLink RJ0 549 yJ5_length_8abf5 ∈ o_gW := o_gT (i := 668) (by decide +kernel) rfl
theorem ml_J4_343 : Cond.methodLink RJ4 343 yJ5_length_8abf5 ∈ o_gW := o_gT (i := 674) (by decide +kernel) rfl
theorem ml_J0_1047 : Cond.methodLink RJ0 1047 yJ5_isLatin1_aae02 ∈ o_gW := o_gT (i := 676) (by decide +kernel) rfl
theorem ml_J0_54 : Cond.methodLink RJ0 54 yJ7_copyOfRange_39247 ∈ o_gW := o_gT (i := 677) (by decide +kernel) rfl
theorem ml_J7_339 : Cond.methodLink RJ7 339 yJ7_copyOfRangeByte_39247 ∈ o_gW := o_gT (i := 680) (by decide +kernel) rfl
theorem ml_J7_343 : Cond.methodLink RJ7 343 yJ7_checkLength_df160 ∈ o_gW := o_gT (i := 683) (by decide +kernel) rfl
theorem ml_J7_47 : Cond.methodLink RJ7 47 yJ4_init_da8c8 ∈ o_gW := o_gT (i := 733) (by decide +kernel) rfl
theorem ml_J7_54 : Cond.methodLink RJ7 54 yJ4_append_bf812 ∈ o_gW := o_gT (i := 734) (by decide +kernel) rfl
theorem ml_J7_50 : Cond.methodLink RJ7 50 yJ4_append_15ec4 ∈ o_gW := o_gT (i := 736) (by decide +kernel) rfl
theorem ml_J7_61 : Cond.methodLink RJ7 61 yJ4_toString_0e30d ∈ o_gW := o_gT (i := 737) (by decide +kernel) rfl
theorem ml_J0_1051 : Cond.methodLink RJ0 1051 yJ2_compress_39247 ∈ o_gW := o_gT (i := 763) (by decide +kernel) rfl
theorem ml_J2_123 : Cond.methodLink RJ2 123 yJ2_compress_5af95 ∈ o_gW := o_gT (i := 766) (by decide +kernel) rfl
theorem ml_J2_71 : Cond.methodLink RJ2 71 yJ2_getChar_3b067 ∈ o_gW := o_gT (i := 769) (by decide +kernel) rfl
theorem ml_J2_126 : Cond.methodLink RJ2 126 yJ7_copyOfRange_39247 ∈ o_gW := o_gT (i := 772) (by decide +kernel) rfl
theorem ml_J0_47 : Cond.methodLink RJ0 47 yJ2_coderFromArrayLen_85cad ∈ o_gW := o_gT (i := 773) (by decide +kernel) rfl
theorem ml_J5_133 : Cond.methodLink RJ5 133 yJ1_fillNull_b72d1 ∈ o_gW := o_gT (i := 798) (by decide +kernel) rfl
theorem ml_J1_236 : Cond.methodLink RJ1 236 yJ7_fill_eb02e ∈ o_gW := o_gT (i := 801) (by decide +kernel) rfl
theorem ml_J7_13 : Cond.methodLink RJ7 13 yJ7_rangeCheck_23922 ∈ o_gW := o_gT (i := 804) (by decide +kernel) rfl
theorem ml_J7_70 : Cond.methodLink RJ7 70 yJx00060_init_d00df ∈ o_gW := o_gT (i := 821) (by decide +kernel) rfl
theorem ml_Jx00060_12 : Cond.methodLink RJx00060 12 yJ4_init_da8c8 ∈ o_gW := o_gT (i := 825) (by decide +kernel) rfl
theorem ml_Jx00060_15 : Cond.methodLink RJx00060 15 yJ4_append_15ec4 ∈ o_gW := o_gT (i := 827) (by decide +kernel) rfl
theorem ml_Jx00060_19 : Cond.methodLink RJx00060 19 yJ4_append_bf812 ∈ o_gW := o_gT (i := 828) (by decide +kernel) rfl
theorem ml_Jx00060_22 : Cond.methodLink RJx00060 22 yJ4_toString_0e30d ∈ o_gW := o_gT (i := 829) (by decide +kernel) rfl
theorem ml_J5_137 : Cond.methodLink RJ5 137 yJ2_fillNull_b72d1 ∈ o_gW := o_gT (i := 833) (by decide +kernel) rfl
theorem ml_J2_380 : Cond.methodLink RJ2 380 yJ7_fill_eb02e ∈ o_gW := o_gT (i := 836) (by decide +kernel) rfl
theorem ml_X11_350 : Cond.methodLink RX11 350 yJ4_append_cf468 ∈ o_gW := o_gT (i := 837) (by decide +kernel) rfl
theorem ml_J4_50 : Cond.methodLink RJ4 50 yJ5_append_3fe6f ∈ o_gW := o_gT (i := 841) (by decide +kernel) rfl
theorem ml_J5_191 : Cond.methodLink RJ5 191 yJ1_canEncode_fc78d ∈ o_gW := o_gT (i := 844) (by decide +kernel) rfl
theorem ml_J5_197 : Cond.methodLink RJ5 197 yJ2_putCharSB_b72d1 ∈ o_gW := o_gT (i := 847) (by decide +kernel) rfl
theorem ml_J2_67 : Cond.methodLink RJ2 67 yJ2_checkIndex_2214a ∈ o_gW := o_gT (i := 850) (by decide +kernel) rfl
theorem ml_J2_414 : Cond.methodLink RJ2 414 yJ0_checkIndex_df160 ∈ o_gW := o_gT (i := 853) (by decide +kernel) rfl
theorem ml_J0_1059 : Cond.methodLink RJ0 1059 yJ3_checkIndex_8e157 ∈ o_gW := o_gT (i := 856) (by decide +kernel) rfl
theorem ml_X11_353 : Cond.methodLink RX11 353 yX11_describe ∈ o_gW := o_gT (i := 859) (by decide +kernel) rfl
theorem ml_X11_358 : Cond.methodLink RX11 358 yJ4_append_bf812 ∈ o_gW := o_gT (i := 863) (by decide +kernel) rfl
theorem ml_X11_361 : Cond.methodLink RX11 361 yX8_positionOf ∈ o_gW := o_gT (i := 864) (by decide +kernel) rfl
theorem ml_X11_356 : Cond.methodLink RX11 356 yJ4_length_8abf5 ∈ o_gW := o_gT (i := 868) (by decide +kernel) rfl
theorem ml_L_313 : Cond.methodLink RL 313 yX11_undoCount ∈ o_gW := o_gT (i := 869) (by decide +kernel) rfl
theorem ml_L_320 : Cond.methodLink RL 320 yX11_save ∈ o_gW := o_gT (i := 873) (by decide +kernel) rfl
theorem ml_X11_299 : Cond.methodLink RX11 299 yX10_copyFrom ∈ o_gW := o_gT (i := 877) (by decide +kernel) rfl
theorem ml_X10_148 : Cond.methodLink RX10 148 yX9_copyFrom ∈ o_gW := o_gT (i := 881) (by decide +kernel) rfl
theorem ml_X10_152 : Cond.methodLink RX10 152 yX7_copyFrom ∈ o_gW := o_gT (i := 885) (by decide +kernel) rfl
theorem ml_X10_155 : Cond.methodLink RX10 155 yX8_copyFrom ∈ o_gW := o_gT (i := 889) (by decide +kernel) rfl
theorem ml_L_143 : Cond.methodLink RL 143 yL_addShip ∈ o_gW := o_gT (i := 893) (by decide +kernel) rfl
theorem ml_L_7 : Cond.methodLink RL 7 yX11_addShip ∈ o_gW := o_gT (i := 897) (by decide +kernel) rfl
theorem ml_X11_68 : Cond.methodLink RX11 68 yX10_faultOfNewShip ∈ o_gW := o_gT (i := 901) (by decide +kernel) rfl
theorem ml_X11_72 : Cond.methodLink RX11 72 yX11_throwFor ∈ o_gW := o_gT (i := 905) (by decide +kernel) rfl
theorem ml_X11_76 : Cond.methodLink RX11 76 yX5_push ∈ o_gW := o_gT (i := 972) (by decide +kernel) rfl
theorem ml_X5_25 : Cond.methodLink RX5 25 yX10_copyFrom ∈ o_gW := o_gT (i := 976) (by decide +kernel) rfl
theorem ml_X11_84 : Cond.methodLink RX11 84 yX9_append ∈ o_gW := o_gT (i := 977) (by decide +kernel) rfl
theorem ml_L_152 : Cond.methodLink RL 152 yL_addLamp ∈ o_gW := o_gT (i := 981) (by decide +kernel) rfl
theorem ml_L_15 : Cond.methodLink RL 15 yX11_addLamp ∈ o_gW := o_gT (i := 985) (by decide +kernel) rfl
theorem ml_X11_90 : Cond.methodLink RX11 90 yX10_faultOfNewLamp ∈ o_gW := o_gT (i := 989) (by decide +kernel) rfl
theorem ml_X11_98 : Cond.methodLink RX11 98 yX7_append ∈ o_gW := o_gT (i := 993) (by decide +kernel) rfl
theorem ml_L_156 : Cond.methodLink RL 156 yL_addOil ∈ o_gW := o_gT (i := 997) (by decide +kernel) rfl
theorem ml_L_21 : Cond.methodLink RL 21 yX11_addOil ∈ o_gW := o_gT (i := 1000) (by decide +kernel) rfl
theorem ml_X11_103 : Cond.methodLink RX11 103 yX10_faultOfNewOil ∈ o_gW := o_gT (i := 1004) (by decide +kernel) rfl
theorem ml_X11_106 : Cond.methodLink RX11 106 yX10_fillUp ∈ o_gW := o_gT (i := 1008) (by decide +kernel) rfl
theorem ml_L_159 : Cond.methodLink RL 159 yL_lease ∈ o_gW := o_gT (i := 1012) (by decide +kernel) rfl
theorem ml_L_24 : Cond.methodLink RL 24 yX11_lease ∈ o_gW := o_gT (i := 1019) (by decide +kernel) rfl
theorem ml_X11_109 : Cond.methodLink RX11 109 yX10_faultOfLease ∈ o_gW := o_gT (i := 1023) (by decide +kernel) rfl
theorem ml_X10_40 : Cond.methodLink RX10 40 yX9_exists ∈ o_gW := o_gT (i := 1027) (by decide +kernel) rfl
theorem ml_X10_44 : Cond.methodLink RX10 44 yX7_exists ∈ o_gW := o_gT (i := 1028) (by decide +kernel) rfl
theorem ml_X10_45 : Cond.methodLink RX10 45 yX10_isNoLeaseTime ∈ o_gW := o_gT (i := 1032) (by decide +kernel) rfl
theorem ml_X10_48 : Cond.methodLink RX10 48 yX7_isTaken ∈ o_gW := o_gT (i := 1035) (by decide +kernel) rfl
theorem ml_X10_51 : Cond.methodLink RX10 51 yX10_price ∈ o_gW := o_gT (i := 1036) (by decide +kernel) rfl
theorem ml_X10_55 : Cond.methodLink RX10 55 yX9_canPay ∈ o_gW := o_gT (i := 1040) (by decide +kernel) rfl
theorem ml_X11_113 : Cond.methodLink RX11 113 yX10_leaseOut ∈ o_gW := o_gT (i := 1044) (by decide +kernel) rfl
theorem ml_X10_67 : Cond.methodLink RX10 67 yX10_payOffice ∈ o_gW := o_gT (i := 1048) (by decide +kernel) rfl
theorem ml_L_163 : Cond.methodLink RL 163 yL_requestRenewal ∈ o_gW := o_gT (i := 1052) (by decide +kernel) rfl
theorem ml_L_32 : Cond.methodLink RL 32 yX11_requestRenewal ∈ o_gW := o_gT (i := 1056) (by decide +kernel) rfl
theorem ml_X11_117 : Cond.methodLink RX11 117 yX10_faultOfRequest ∈ o_gW := o_gT (i := 1060) (by decide +kernel) rfl
theorem ml_X10_59 : Cond.methodLink RX10 59 yX8_positionOf ∈ o_gW := o_gT (i := 1064) (by decide +kernel) rfl
theorem ml_X11_125 : Cond.methodLink RX11 125 yX8_append ∈ o_gW := o_gT (i := 1065) (by decide +kernel) rfl
theorem ml_L_167 : Cond.methodLink RL 167 yL_giveUp ∈ o_gW := o_gT (i := 1069) (by decide +kernel) rfl
theorem ml_L_38 : Cond.methodLink RL 38 yX11_giveUp ∈ o_gW := o_gT (i := 1072) (by decide +kernel) rfl
theorem ml_X11_130 : Cond.methodLink RX11 130 yX10_faultOfUnleased ∈ o_gW := o_gT (i := 1076) (by decide +kernel) rfl
theorem ml_X11_133 : Cond.methodLink RX11 133 yX10_takeBack ∈ o_gW := o_gT (i := 1080) (by decide +kernel) rfl
theorem ml_X10_86 : Cond.methodLink RX10 86 yX8_removeFor ∈ o_gW := o_gT (i := 1084) (by decide +kernel) rfl
theorem ml_L_170 : Cond.methodLink RL 170 yL_passHours ∈ o_gW := o_gT (i := 1088) (by decide +kernel) rfl
theorem ml_L_41 : Cond.methodLink RL 41 yX11_passHours ∈ o_gW := o_gT (i := 1091) (by decide +kernel) rfl
theorem ml_X11_136 : Cond.methodLink RX11 136 yX10_faultOfWait ∈ o_gW := o_gT (i := 1095) (by decide +kernel) rfl
theorem ml_X11_139 : Cond.methodLink RX11 139 yX10_letPass ∈ o_gW := o_gT (i := 1099) (by decide +kernel) rfl
theorem ml_X10_90 : Cond.methodLink RX10 90 yX10_passOneHour ∈ o_gW := o_gT (i := 1103) (by decide +kernel) rfl
theorem ml_X10_94 : Cond.methodLink RX10 94 yX10_processRequests ∈ o_gW := o_gT (i := 1107) (by decide +kernel) rfl
theorem ml_X10_112 : Cond.methodLink RX10 112 yX10_renewOrRefuse ∈ o_gW := o_gT (i := 1111) (by decide +kernel) rfl
theorem ml_X10_115 : Cond.methodLink RX10 115 yX8_clear ∈ o_gW := o_gT (i := 1115) (by decide +kernel) rfl
theorem ml_X10_97 : Cond.methodLink RX10 97 yX10_burn ∈ o_gW := o_gT (i := 1119) (by decide +kernel) rfl
theorem ml_X10_100 : Cond.methodLink RX10 100 yX10_fineDarkShips ∈ o_gW := o_gT (i := 1123) (by decide +kernel) rfl
theorem ml_X10_128 : Cond.methodLink RX10 128 yX7_countOf ∈ o_gW := o_gT (i := 1127) (by decide +kernel) rfl
theorem ml_X10_131 : Cond.methodLink RX10 131 yX7_anyBrightOf ∈ o_gW := o_gT (i := 1131) (by decide +kernel) rfl
theorem ml_X10_134 : Cond.methodLink RX10 134 yJ9_min_7cf53 ∈ o_gW := o_gT (i := 1135) (by decide +kernel) rfl
theorem ml_X10_103 : Cond.methodLink RX10 103 yX10_endLeases ∈ o_gW := o_gT (i := 1136) (by decide +kernel) rfl
theorem ml_X10_145 : Cond.methodLink RX10 145 yX10_takeBack ∈ o_gW := o_gT (i := 1140) (by decide +kernel) rfl
theorem ml_L_181 : Cond.methodLink RL 181 yL_coins ∈ o_gW := o_gT (i := 1141) (by decide +kernel) rfl
theorem ml_L_44 : Cond.methodLink RL 44 yX11_coins ∈ o_gW := o_gT (i := 1144) (by decide +kernel) rfl
theorem ml_X11_148 : Cond.methodLink RX11 148 yX11_throwUnlessShip ∈ o_gW := o_gT (i := 1148) (by decide +kernel) rfl
theorem ml_X11_398 : Cond.methodLink RX11 398 yX9_exists ∈ o_gW := o_gT (i := 1152) (by decide +kernel) rfl
theorem ml_L_184 : Cond.methodLink RL 184 yL_finesPaid ∈ o_gW := o_gT (i := 1154) (by decide +kernel) rfl
theorem ml_L_47 : Cond.methodLink RL 47 yX11_finesPaid ∈ o_gW := o_gT (i := 1157) (by decide +kernel) rfl
theorem ml_L_187 : Cond.methodLink RL 187 yL_darkHours ∈ o_gW := o_gT (i := 1161) (by decide +kernel) rfl
theorem ml_L_50 : Cond.methodLink RL 50 yX11_darkHours ∈ o_gW := o_gT (i := 1164) (by decide +kernel) rfl
theorem ml_L_190 : Cond.methodLink RL 190 yL_demand ∈ o_gW := o_gT (i := 1168) (by decide +kernel) rfl
theorem ml_L_53 : Cond.methodLink RL 53 yX11_demand ∈ o_gW := o_gT (i := 1171) (by decide +kernel) rfl
theorem ml_X11_162 : Cond.methodLink RX11 162 yX7_demandOf ∈ o_gW := o_gT (i := 1175) (by decide +kernel) rfl
theorem ml_L_193 : Cond.methodLink RL 193 yL_leasesOf ∈ o_gW := o_gT (i := 1176) (by decide +kernel) rfl
theorem ml_L_56 : Cond.methodLink RL 56 yX11_leasesOf ∈ o_gW := o_gT (i := 1179) (by decide +kernel) rfl
theorem ml_X11_165 : Cond.methodLink RX11 165 yX7_countOf ∈ o_gW := o_gT (i := 1183) (by decide +kernel) rfl
theorem ml_L_200 : Cond.methodLink RL 200 yL_level ∈ o_gW := o_gT (i := 1184) (by decide +kernel) rfl
theorem ml_L_59 : Cond.methodLink RL 59 yX11_level ∈ o_gW := o_gT (i := 1187) (by decide +kernel) rfl
theorem ml_X11_169 : Cond.methodLink RX11 169 yX11_throwUnlessLamp ∈ o_gW := o_gT (i := 1191) (by decide +kernel) rfl
theorem ml_X11_403 : Cond.methodLink RX11 403 yX7_exists ∈ o_gW := o_gT (i := 1195) (by decide +kernel) rfl
theorem ml_L_203 : Cond.methodLink RL 203 yL_isLeased ∈ o_gW := o_gT (i := 1197) (by decide +kernel) rfl
theorem ml_L_62 : Cond.methodLink RL 62 yX11_isLeased ∈ o_gW := o_gT (i := 1200) (by decide +kernel) rfl
theorem ml_L_206 : Cond.methodLink RL 206 yL_lessee ∈ o_gW := o_gT (i := 1204) (by decide +kernel) rfl
theorem ml_L_66 : Cond.methodLink RL 66 yX11_lessee ∈ o_gW := o_gT (i := 1207) (by decide +kernel) rfl
theorem ml_L_209 : Cond.methodLink RL 209 yL_endHour ∈ o_gW := o_gT (i := 1211) (by decide +kernel) rfl
theorem ml_L_69 : Cond.methodLink RL 69 yX11_endHour ∈ o_gW := o_gT (i := 1214) (by decide +kernel) rfl
theorem ml_L_212 : Cond.methodLink RL 212 yL_brightHours ∈ o_gW := o_gT (i := 1218) (by decide +kernel) rfl
theorem ml_L_72 : Cond.methodLink RL 72 yX11_brightHours ∈ o_gW := o_gT (i := 1221) (by decide +kernel) rfl
theorem ml_L_215 : Cond.methodLink RL 215 yL_wasBright ∈ o_gW := o_gT (i := 1225) (by decide +kernel) rfl
theorem ml_L_75 : Cond.methodLink RL 75 yX11_wasBright ∈ o_gW := o_gT (i := 1228) (by decide +kernel) rfl
theorem ml_L_230 : Cond.methodLink RL 230 yL_hoursOfOil ∈ o_gW := o_gT (i := 1232) (by decide +kernel) rfl
theorem ml_L_78 : Cond.methodLink RL 78 yX11_hoursOfOil ∈ o_gW := o_gT (i := 1235) (by decide +kernel) rfl
theorem ml_X11_201 : Cond.methodLink RX11 201 yX4_hoursByPassing ∈ o_gW := o_gT (i := 1239) (by decide +kernel) rfl
theorem ml_X4_28 : Cond.methodLink RX4 28 yX7_demandAfter ∈ o_gW := o_gT (i := 1243) (by decide +kernel) rfl
theorem ml_X11_205 : Cond.methodLink RX11 205 yX11_throwIfNothing ∈ o_gW := o_gT (i := 1247) (by decide +kernel) rfl
theorem ml_L_233 : Cond.methodLink RL 233 yL_hoursOfOilByEnds ∈ o_gW := o_gT (i := 1251) (by decide +kernel) rfl
theorem ml_L_81 : Cond.methodLink RL 81 yX11_hoursOfOilByEnds ∈ o_gW := o_gT (i := 1254) (by decide +kernel) rfl
theorem ml_X11_208 : Cond.methodLink RX11 208 yX4_hoursByEndHours ∈ o_gW := o_gT (i := 1258) (by decide +kernel) rfl
theorem ml_X4_34 : Cond.methodLink RX4 34 yX7_firstEndAfter ∈ o_gW := o_gT (i := 1262) (by decide +kernel) rfl
theorem ml_L_248 : Cond.methodLink RL 248 yL_share ∈ o_gW := o_gT (i := 1266) (by decide +kernel) rfl
theorem ml_L_84 : Cond.methodLink RL 84 yX11_share ∈ o_gW := o_gT (i := 1269) (by decide +kernel) rfl
theorem ml_L_251 : Cond.methodLink RL 251 yL_shareByRank ∈ o_gW := o_gT (i := 1273) (by decide +kernel) rfl
theorem ml_L_87 : Cond.methodLink RL 87 yX11_shareByRank ∈ o_gW := o_gT (i := 1276) (by decide +kernel) rfl
theorem ml_L_258 : Cond.methodLink RL 258 yL_requestedLamp ∈ o_gW := o_gT (i := 1280) (by decide +kernel) rfl
theorem ml_L_90 : Cond.methodLink RL 90 yX11_requestedLamp ∈ o_gW := o_gT (i := 1283) (by decide +kernel) rfl
theorem ml_X11_228 : Cond.methodLink RX11 228 yX11_throwUnlessPosition ∈ o_gW := o_gT (i := 1287) (by decide +kernel) rfl
theorem ml_L_261 : Cond.methodLink RL 261 yL_requestedHours ∈ o_gW := o_gT (i := 1292) (by decide +kernel) rfl
theorem ml_L_93 : Cond.methodLink RL 93 yX11_requestedHours ∈ o_gW := o_gT (i := 1295) (by decide +kernel) rfl
theorem ml_L_272 : Cond.methodLink RL 272 yL_shipByFines ∈ o_gW := o_gT (i := 1299) (by decide +kernel) rfl
theorem ml_L_96 : Cond.methodLink RL 96 yX11_shipByFines ∈ o_gW := o_gT (i := 1302) (by decide +kernel) rfl
theorem ml_X11_242 : Cond.methodLink RX11 242 yX9_atRank ∈ o_gW := o_gT (i := 1306) (by decide +kernel) rfl
theorem ml_X9_25 : Cond.methodLink RX9 25 yX9_rankOf ∈ o_gW := o_gT (i := 1310) (by decide +kernel) rfl
theorem ml_X9_29 : Cond.methodLink RX9 29 yX9_isBefore ∈ o_gW := o_gT (i := 1314) (by decide +kernel) rfl
theorem ml_L_275 : Cond.methodLink RL 275 yL_lampByEnd ∈ o_gW := o_gT (i := 1318) (by decide +kernel) rfl
theorem ml_L_99 : Cond.methodLink RL 99 yX11_lampByEnd ∈ o_gW := o_gT (i := 1321) (by decide +kernel) rfl
theorem ml_X11_245 : Cond.methodLink RX11 245 yX7_atRank ∈ o_gW := o_gT (i := 1325) (by decide +kernel) rfl
theorem ml_X7_40 : Cond.methodLink RX7 40 yX7_rankOf ∈ o_gW := o_gT (i := 1329) (by decide +kernel) rfl
theorem ml_X7_44 : Cond.methodLink RX7 44 yX7_isBefore ∈ o_gW := o_gT (i := 1333) (by decide +kernel) rfl
theorem ml_L_278 : Cond.methodLink RL 278 yL_meanCoins ∈ o_gW := o_gT (i := 1337) (by decide +kernel) rfl
theorem ml_L_102 : Cond.methodLink RL 102 yX11_meanCoins ∈ o_gW := o_gT (i := 1354) (by decide +kernel) rfl
theorem ml_L_282 : Cond.methodLink RL 282 yL_leasedShare ∈ o_gW := o_gT (i := 1361) (by decide +kernel) rfl
theorem ml_L_108 : Cond.methodLink RL 108 yX11_leasedShare ∈ o_gW := o_gT (i := 1364) (by decide +kernel) rfl
theorem ml_L_290 : Cond.methodLink RL 290 yL_feed ∈ o_gW := o_gT (i := 1369) (by decide +kernel) rfl
theorem ml_L_112 : Cond.methodLink RL 112 yX11_feed ∈ o_gW := o_gT (i := 1372) (by decide +kernel) rfl
theorem ml_X11_282 : Cond.methodLink RX11 282 yX2_append ∈ o_gW := o_gT (i := 1377) (by decide +kernel) rfl
theorem ml_L_294 : Cond.methodLink RL 294 yL_runCommands ∈ o_gW := o_gT (i := 1381) (by decide +kernel) rfl
theorem ml_L_116 : Cond.methodLink RL 116 yX11_runCommands ∈ o_gW := o_gT (i := 1384) (by decide +kernel) rfl
theorem ml_X11_285 : Cond.methodLink RX11 285 yX2_parse ∈ o_gW := o_gT (i := 1388) (by decide +kernel) rfl
theorem ml_X2_32 : Cond.methodLink RX2 32 yX2_readCommand ∈ o_gW := o_gT (i := 1392) (by decide +kernel) rfl
theorem ml_X2_40 : Cond.methodLink RX2 40 yX2_readKeyword ∈ o_gW := o_gT (i := 1396) (by decide +kernel) rfl
theorem ml_X2_82 : Cond.methodLink RX2 82 yX2_commonLetters ∈ o_gW := o_gT (i := 1402) (by decide +kernel) rfl
theorem ml_X2_62 : Cond.methodLink RX2 62 yJ0_length_8abf5 ∈ o_gW := o_gT (i := 1406) (by decide +kernel) rfl
theorem ml_X2_67 : Cond.methodLink RX2 67 yJ0_charAt_5068e ∈ o_gW := o_gT (i := 1407) (by decide +kernel) rfl
theorem ml_J0_492 : Cond.methodLink RJ0 492 yJ0_isLatin1_aae02 ∈ o_gW := o_gT (i := 1411) (by decide +kernel) rfl
theorem ml_J0_495 : Cond.methodLink RJ0 495 yJ1_charAt_3b067 ∈ o_gW := o_gT (i := 1415) (by decide +kernel) rfl
theorem ml_J1_9 : Cond.methodLink RJ1 9 yJ0_checkIndex_df160 ∈ o_gW := o_gT (i := 1418) (by decide +kernel) rfl
theorem ml_J0_498 : Cond.methodLink RJ0 498 yJ2_charAt_3b067 ∈ o_gW := o_gT (i := 1419) (by decide +kernel) rfl
theorem ml_X2_86 : Cond.methodLink RX2 86 yJ9_max_7cf53 ∈ o_gW := o_gT (i := 1422) (by decide +kernel) rfl
theorem ml_X2_36 : Cond.methodLink RX2 36 yX2_isAt ∈ o_gW := o_gT (i := 1423) (by decide +kernel) rfl
theorem ml_X2_54 : Cond.methodLink RX2 54 yX1_put ∈ o_gW := o_gT (i := 1427) (by decide +kernel) rfl
theorem ml_X2_71 : Cond.methodLink RX2 71 yX2_readBlankAndNumber ∈ o_gW := o_gT (i := 1431) (by decide +kernel) rfl
theorem ml_X2_92 : Cond.methodLink RX2 92 yX2_isAtDigit ∈ o_gW := o_gT (i := 1435) (by decide +kernel) rfl
theorem ml_X11_288 : Cond.methodLink RX11 288 yX2_clear ∈ o_gW := o_gT (i := 1439) (by decide +kernel) rfl
theorem ml_X11_309 : Cond.methodLink RX11 309 yX11_faultOf ∈ o_gW := o_gT (i := 1444) (by decide +kernel) rfl
theorem ml_X11_338 : Cond.methodLink RX11 338 yX1_first ∈ o_gW := o_gT (i := 1456) (by decide +kernel) rfl
theorem ml_X11_341 : Cond.methodLink RX11 341 yX1_second ∈ o_gW := o_gT (i := 1460) (by decide +kernel) rfl
theorem ml_X11_344 : Cond.methodLink RX11 344 yX1_third ∈ o_gW := o_gT (i := 1464) (by decide +kernel) rfl
theorem ml_X11_318 : Cond.methodLink RX11 318 yX11_carryOut ∈ o_gW := o_gT (i := 1469) (by decide +kernel) rfl
theorem ml_L_297 : Cond.methodLink RL 297 yL_errorPosition ∈ o_gW := o_gT (i := 1473) (by decide +kernel) rfl
theorem ml_L_119 : Cond.methodLink RL 119 yX11_errorPosition ∈ o_gW := o_gT (i := 1476) (by decide +kernel) rfl
theorem ml_L_300 : Cond.methodLink RL 300 yL_failedCommand ∈ o_gW := o_gT (i := 1480) (by decide +kernel) rfl
theorem ml_L_122 : Cond.methodLink RL 122 yX11_failedCommand ∈ o_gW := o_gT (i := 1483) (by decide +kernel) rfl
theorem ml_L_303 : Cond.methodLink RL 303 yL_failureReason ∈ o_gW := o_gT (i := 1487) (by decide +kernel) rfl
theorem ml_L_125 : Cond.methodLink RL 125 yX11_failureReason ∈ o_gW := o_gT (i := 1490) (by decide +kernel) rfl
theorem ml_L_310 : Cond.methodLink RL 310 yL_outputChar ∈ o_gW := o_gT (i := 1494) (by decide +kernel) rfl
theorem ml_L_129 : Cond.methodLink RL 129 yX11_outputChar ∈ o_gW := o_gT (i := 1497) (by decide +kernel) rfl
theorem ml_X11_369 : Cond.methodLink RX11 369 yJ4_charAt_5068e ∈ o_gW := o_gT (i := 1502) (by decide +kernel) rfl
theorem ml_J4_329 : Cond.methodLink RJ4 329 yJ5_charAt_5068e ∈ o_gW := o_gT (i := 1506) (by decide +kernel) rfl
theorem ml_J5_138 : Cond.methodLink RJ5 138 yJ9_min_7cf53 ∈ o_gW := o_gT (i := 1509) (by decide +kernel) rfl
theorem ml_J5_144 : Cond.methodLink RJ5 144 yJ0_checkIndex_df160 ∈ o_gW := o_gT (i := 1510) (by decide +kernel) rfl
theorem ml_J5_148 : Cond.methodLink RJ5 148 yJ2_getChar_3b067 ∈ o_gW := o_gT (i := 1511) (by decide +kernel) rfl
theorem ml_L_317 : Cond.methodLink RL 317 yL_undo ∈ o_gW := o_gT (i := 1512) (by decide +kernel) rfl
theorem ml_L_133 : Cond.methodLink RL 133 yX11_undo ∈ o_gW := o_gT (i := 1515) (by decide +kernel) rfl
theorem ml_X11_375 : Cond.methodLink RX11 375 yX5_popInto ∈ o_gW := o_gT (i := 1520) (by decide +kernel) rfl
theorem ml_L_324 : Cond.methodLink RL 324 yL_restore ∈ o_gW := o_gT (i := 1524) (by decide +kernel) rfl
theorem ml_L_136 : Cond.methodLink RL 136 yX11_restore ∈ o_gW := o_gT (i := 1527) (by decide +kernel) rfl
theorem ml_X11_384 : Cond.methodLink RX11 384 yX5_clear ∈ o_gW := o_gT (i := 1532) (by decide +kernel) rfl
theorem ml_L_142 : Cond.methodLink RL 142 yX12_init ∈ o_gW := o_gT (i := 1538) (by decide +kernel) rfl
theorem ml_L_149 : Cond.methodLink RL 149 yX12_thrown ∈ o_gW := o_gT (i := 1600) (by decide +kernel) rfl
theorem ml_L_148 : Cond.methodLink RL 148 yX12_addShip ∈ o_gW := o_gT (i := 1604) (by decide +kernel) rfl
theorem ml_X12_73 : Cond.methodLink RX12 73 yX12_keep ∈ o_gW := o_gT (i := 1608) (by decide +kernel) rfl
theorem ml_X12_76 : Cond.methodLink RX12 76 yX12_doAddShip ∈ o_gW := o_gT (i := 1613) (by decide +kernel) rfl
theorem ml_X12_70 : Cond.methodLink RX12 70 yX12_fails ∈ o_gW := o_gT (i := 1617) (by decide +kernel) rfl
theorem ml_X12_80 : Cond.methodLink RX12 80 yX12_ends ∈ o_gW := o_gT (i := 1621) (by decide +kernel) rfl
theorem ml_L_155 : Cond.methodLink RL 155 yX12_addLamp ∈ o_gW := o_gT (i := 1625) (by decide +kernel) rfl
theorem ml_X12_83 : Cond.methodLink RX12 83 yX12_doAddLamp ∈ o_gW := o_gT (i := 1629) (by decide +kernel) rfl
theorem ml_X12_54 : Cond.methodLink RX12 54 yX12_in ∈ o_gW := o_gT (i := 1633) (by decide +kernel) rfl
theorem ml_X12_66 : Cond.methodLink RX12 66 yX12_sets ∈ o_gW := o_gT (i := 1636) (by decide +kernel) rfl
theorem ml_L_158 : Cond.methodLink RL 158 yX12_addOil ∈ o_gW := o_gT (i := 1640) (by decide +kernel) rfl
theorem ml_X12_86 : Cond.methodLink RX12 86 yX12_doAddOil ∈ o_gW := o_gT (i := 1644) (by decide +kernel) rfl
theorem ml_L_162 : Cond.methodLink RL 162 yX12_lease ∈ o_gW := o_gT (i := 1648) (by decide +kernel) rfl
theorem ml_X12_106 : Cond.methodLink RX12 106 yX12_doLease ∈ o_gW := o_gT (i := 1652) (by decide +kernel) rfl
theorem ml_X12_89 : Cond.methodLink RX12 89 yX12_isShip ∈ o_gW := o_gT (i := 1656) (by decide +kernel) rfl
theorem ml_X12_93 : Cond.methodLink RX12 93 yX12_isLamp ∈ o_gW := o_gT (i := 1660) (by decide +kernel) rfl
theorem ml_X12_96 : Cond.methodLink RX12 96 yX12_isOut ∈ o_gW := o_gT (i := 1664) (by decide +kernel) rfl
theorem ml_X12_58 : Cond.methodLink RX12 58 yX12_of ∈ o_gW := o_gT (i := 1668) (by decide +kernel) rfl
theorem ml_X12_99 : Cond.methodLink RX12 99 yX12_ofShip ∈ o_gW := o_gT (i := 1672) (by decide +kernel) rfl
theorem ml_X12_102 : Cond.methodLink RX12 102 yX12_pays ∈ o_gW := o_gT (i := 1676) (by decide +kernel) rfl
theorem ml_L_166 : Cond.methodLink RL 166 yX12_requestRenewal ∈ o_gW := o_gT (i := 1680) (by decide +kernel) rfl
theorem ml_X12_110 : Cond.methodLink RX12 110 yX12_doRequestRenewal ∈ o_gW := o_gT (i := 1684) (by decide +kernel) rfl
theorem ml_X12_62 : Cond.methodLink RX12 62 yX12_requestFor ∈ o_gW := o_gT (i := 1688) (by decide +kernel) rfl
theorem ml_L_169 : Cond.methodLink RL 169 yX12_giveUp ∈ o_gW := o_gT (i := 1692) (by decide +kernel) rfl
theorem ml_X12_117 : Cond.methodLink RX12 117 yX12_doGiveUp ∈ o_gW := o_gT (i := 1696) (by decide +kernel) rfl
theorem ml_X12_113 : Cond.methodLink RX12 113 yX12_frees ∈ o_gW := o_gT (i := 1700) (by decide +kernel) rfl
theorem ml_L_172 : Cond.methodLink RL 172 yX12_passHours ∈ o_gW := o_gT (i := 1704) (by decide +kernel) rfl
theorem ml_X12_141 : Cond.methodLink RX12 141 yX12_doPassHours ∈ o_gW := o_gT (i := 1708) (by decide +kernel) rfl
theorem ml_X12_129 : Cond.methodLink RX12 129 yX12_renews ∈ o_gW := o_gT (i := 1712) (by decide +kernel) rfl
theorem ml_X12_132 : Cond.methodLink RX12 132 yX12_burns ∈ o_gW := o_gT (i := 1716) (by decide +kernel) rfl
theorem ml_X12_135 : Cond.methodLink RX12 135 yX12_fines ∈ o_gW := o_gT (i := 1720) (by decide +kernel) rfl
theorem ml_X12_120 : Cond.methodLink RX12 120 yX12_lampsOf ∈ o_gW := o_gT (i := 1724) (by decide +kernel) rfl
theorem ml_X12_124 : Cond.methodLink RX12 124 yJ9_min_7cf53 ∈ o_gW := o_gT (i := 1728) (by decide +kernel) rfl
theorem ml_X12_138 : Cond.methodLink RX12 138 yX12_endsLeases ∈ o_gW := o_gT (i := 1729) (by decide +kernel) rfl
theorem ml_L_176 : Cond.methodLink RL 176 yX12_hour ∈ o_gW := o_gT (i := 1733) (by decide +kernel) rfl
theorem ml_L_180 : Cond.methodLink RL 180 yX12_shipCount ∈ o_gW := o_gT (i := 1737) (by decide +kernel) rfl
theorem ml_L_183 : Cond.methodLink RL 183 yX12_coins ∈ o_gW := o_gT (i := 1741) (by decide +kernel) rfl
theorem ml_X12_144 : Cond.methodLink RX12 144 yX12_isThere ∈ o_gW := o_gT (i := 1745) (by decide +kernel) rfl
theorem ml_L_186 : Cond.methodLink RL 186 yX12_finesPaid ∈ o_gW := o_gT (i := 1749) (by decide +kernel) rfl
theorem ml_L_189 : Cond.methodLink RL 189 yX12_darkHours ∈ o_gW := o_gT (i := 1753) (by decide +kernel) rfl
theorem ml_L_192 : Cond.methodLink RL 192 yX12_demand ∈ o_gW := o_gT (i := 1757) (by decide +kernel) rfl
theorem ml_X12_148 : Cond.methodLink RX12 148 yX12_wants ∈ o_gW := o_gT (i := 1761) (by decide +kernel) rfl
theorem ml_L_195 : Cond.methodLink RL 195 yX12_leasesOf ∈ o_gW := o_gT (i := 1765) (by decide +kernel) rfl
theorem ml_L_199 : Cond.methodLink RL 199 yX12_lampCount ∈ o_gW := o_gT (i := 1769) (by decide +kernel) rfl
theorem ml_L_202 : Cond.methodLink RL 202 yX12_level ∈ o_gW := o_gT (i := 1773) (by decide +kernel) rfl
theorem ml_L_205 : Cond.methodLink RL 205 yX12_isLeased ∈ o_gW := o_gT (i := 1777) (by decide +kernel) rfl
theorem ml_L_208 : Cond.methodLink RL 208 yX12_lessee ∈ o_gW := o_gT (i := 1781) (by decide +kernel) rfl
theorem ml_L_211 : Cond.methodLink RL 211 yX12_endHour ∈ o_gW := o_gT (i := 1785) (by decide +kernel) rfl
theorem ml_L_214 : Cond.methodLink RL 214 yX12_brightHours ∈ o_gW := o_gT (i := 1789) (by decide +kernel) rfl
theorem ml_L_217 : Cond.methodLink RL 217 yX12_wasBright ∈ o_gW := o_gT (i := 1793) (by decide +kernel) rfl
theorem ml_L_221 : Cond.methodLink RL 221 yX12_leasedLamps ∈ o_gW := o_gT (i := 1797) (by decide +kernel) rfl
theorem ml_X12_151 : Cond.methodLink RX12 151 yX12_leased ∈ o_gW := o_gT (i := 1801) (by decide +kernel) rfl
theorem ml_L_225 : Cond.methodLink RL 225 yX12_oil ∈ o_gW := o_gT (i := 1805) (by decide +kernel) rfl
theorem ml_L_229 : Cond.methodLink RL 229 yX12_consumption ∈ o_gW := o_gT (i := 1809) (by decide +kernel) rfl
theorem ml_X12_154 : Cond.methodLink RX12 154 yX12_needed ∈ o_gW := o_gT (i := 1813) (by decide +kernel) rfl
theorem ml_L_232 : Cond.methodLink RL 232 yX12_hoursOfOil ∈ o_gW := o_gT (i := 1817) (by decide +kernel) rfl
theorem ml_L_235 : Cond.methodLink RL 235 yX12_hoursOfOilByEnds ∈ o_gW := o_gT (i := 1821) (by decide +kernel) rfl
theorem ml_X12_157 : Cond.methodLink RX12 157 yX12_hoursOfOil ∈ o_gW := o_gT (i := 1825) (by decide +kernel) rfl
theorem ml_L_239 : Cond.methodLink RL 239 yX12_brightNext ∈ o_gW := o_gT (i := 1826) (by decide +kernel) rfl
theorem ml_L_243 : Cond.methodLink RL 243 yX12_mostBright ∈ o_gW := o_gT (i := 1830) (by decide +kernel) rfl
theorem ml_L_247 : Cond.methodLink RL 247 yX12_mostBrightBySums ∈ o_gW := o_gT (i := 1834) (by decide +kernel) rfl
theorem ml_X12_160 : Cond.methodLink RX12 160 yX12_mostBright ∈ o_gW := o_gT (i := 1838) (by decide +kernel) rfl
theorem ml_L_250 : Cond.methodLink RL 250 yX12_share ∈ o_gW := o_gT (i := 1839) (by decide +kernel) rfl
theorem ml_X12_163 : Cond.methodLink RX12 163 yX12_partOf ∈ o_gW := o_gT (i := 1843) (by decide +kernel) rfl
theorem ml_L_253 : Cond.methodLink RL 253 yX12_shareByRank ∈ o_gW := o_gT (i := 1847) (by decide +kernel) rfl
theorem ml_X12_166 : Cond.methodLink RX12 166 yX12_share ∈ o_gW := o_gT (i := 1851) (by decide +kernel) rfl
theorem ml_L_257 : Cond.methodLink RL 257 yX12_requestCount ∈ o_gW := o_gT (i := 1852) (by decide +kernel) rfl
theorem ml_L_260 : Cond.methodLink RL 260 yX12_requestedLamp ∈ o_gW := o_gT (i := 1856) (by decide +kernel) rfl
theorem ml_X12_169 : Cond.methodLink RX12 169 yX12_isRequest ∈ o_gW := o_gT (i := 1860) (by decide +kernel) rfl
theorem ml_L_263 : Cond.methodLink RL 263 yX12_requestedHours ∈ o_gW := o_gT (i := 1864) (by decide +kernel) rfl
theorem ml_L_267 : Cond.methodLink RL 267 yX12_refusedRenewals ∈ o_gW := o_gT (i := 1868) (by decide +kernel) rfl
theorem ml_L_271 : Cond.methodLink RL 271 yX12_officeCoins ∈ o_gW := o_gT (i := 1872) (by decide +kernel) rfl
theorem ml_L_274 : Cond.methodLink RL 274 yX12_shipByFines ∈ o_gW := o_gT (i := 1876) (by decide +kernel) rfl
theorem ml_L_277 : Cond.methodLink RL 277 yX12_lampByEnd ∈ o_gW := o_gT (i := 1880) (by decide +kernel) rfl
theorem ml_L_281 : Cond.methodLink RL 281 yX12_meanCoins ∈ o_gW := o_gT (i := 1884) (by decide +kernel) rfl
theorem ml_L_284 : Cond.methodLink RL 284 yX12_leasedShare ∈ o_gW := o_gT (i := 1888) (by decide +kernel) rfl
theorem ml_L_289 : Cond.methodLink RL 289 yX12_isConsistent ∈ o_gW := o_gT (i := 1892) (by decide +kernel) rfl
theorem ml_L_309 : Cond.methodLink RL 309 yX12_writeLamps ∈ o_gW := o_gT (i := 1896) (by decide +kernel) rfl
theorem ml_X12_178 : Cond.methodLink RX12 178 yX12_says ∈ o_gW := o_gT (i := 1900) (by decide +kernel) rfl
theorem ml_X12_175 : Cond.methodLink RX12 175 yX12_saysNumber ∈ o_gW := o_gT (i := 1904) (by decide +kernel) rfl
theorem ml_L_312 : Cond.methodLink RL 312 yX12_outputChar ∈ o_gW := o_gT (i := 1908) (by decide +kernel) rfl
theorem ml_L_293 : Cond.methodLink RL 293 yX12_feed ∈ o_gW := o_gT (i := 1912) (by decide +kernel) rfl
theorem ml_L_296 : Cond.methodLink RL 296 yX12_runCommands ∈ o_gW := o_gT (i := 1916) (by decide +kernel) rfl
theorem ml_X12_243 : Cond.methodLink RX12 243 yX12_readCommand ∈ o_gW := o_gT (i := 1920) (by decide +kernel) rfl
theorem ml_X12_196 : Cond.methodLink RX12 196 yX12_behind ∈ o_gW := o_gT (i := 1924) (by decide +kernel) rfl
theorem ml_X12_205 : Cond.methodLink RX12 205 yX12_skip ∈ o_gW := o_gT (i := 1930) (by decide +kernel) rfl
theorem ml_X12_188 : Cond.methodLink RX12 188 yJ0_length_8abf5 ∈ o_gW := o_gT (i := 1934) (by decide +kernel) rfl
theorem ml_X12_199 : Cond.methodLink RX12 199 yJ0_charAt_5068e ∈ o_gW := o_gT (i := 1935) (by decide +kernel) rfl
theorem ml_X12_220 : Cond.methodLink RX12 220 yX12_readNumber ∈ o_gW := o_gT (i := 1936) (by decide +kernel) rfl
theorem ml_X12_209 : Cond.methodLink RX12 209 yX12_isDigit ∈ o_gW := o_gT (i := 1941) (by decide +kernel) rfl
theorem ml_X12_246 : Cond.methodLink RX12 246 yX12_does ∈ o_gW := o_gT (i := 1950) (by decide +kernel) rfl
theorem ml_L_299 : Cond.methodLink RL 299 yX12_errorPosition ∈ o_gW := o_gT (i := 1960) (by decide +kernel) rfl
theorem ml_L_302 : Cond.methodLink RL 302 yX12_failedCommand ∈ o_gW := o_gT (i := 1964) (by decide +kernel) rfl
theorem ml_L_305 : Cond.methodLink RL 305 yX12_failureReason ∈ o_gW := o_gT (i := 1968) (by decide +kernel) rfl
theorem ml_L_316 : Cond.methodLink RL 316 yX12_undoCount ∈ o_gW := o_gT (i := 1972) (by decide +kernel) rfl
theorem ml_L_319 : Cond.methodLink RL 319 yX12_undo ∈ o_gW := o_gT (i := 1976) (by decide +kernel) rfl
theorem ml_L_323 : Cond.methodLink RL 323 yX12_save ∈ o_gW := o_gT (i := 1980) (by decide +kernel) rfl
theorem ml_L_326 : Cond.methodLink RL 326 yX12_restore ∈ o_gW := o_gT (i := 1984) (by decide +kernel) rfl
end
section
/-! the decoded instructions of the class -/
theorem dX1_init_0 : decode cX1_init 0 = .ok (.aload_n 0, 1) := by decide +kernel
theorem dX1_init_1 : decode cX1_init 1 = .ok (.invokespecial 3, 3) := by decide +kernel
theorem dX1_init_4 : decode cX1_init 4 = .ok (.aload_n 0, 1) := by decide +kernel
theorem dX1_init_5 : decode cX1_init 5 = .ok (.getstatic 9, 3) := by decide +kernel
theorem dX1_init_8 : decode cX1_init 8 = .ok (.putfield 15, 3) := by decide +kernel
theorem dX1_init_11 : decode cX1_init 11 = .ok (.aload_n 0, 1) := by decide +kernel
theorem dX1_init_12 : decode cX1_init 12 = .ok (.iconst 3, 1) := by decide +kernel
theorem dX1_init_13 : decode cX1_init 13 = .ok (.newarray .int, 2) := by decide +kernel
theorem dX1_init_15 : decode cX1_init 15 = .ok (.putfield 20, 3) := by decide +kernel
theorem dX1_init_18 : decode cX1_init 18 = .ok (.return_, 1) := by decide +kernel
theorem dX1_first_0 : decode cX1_first 0 = .ok (.aload_n 0, 1) := by decide +kernel
theorem dX1_first_1 : decode cX1_first 1 = .ok (.getfield 20, 3) := by decide +kernel
theorem dX1_first_4 : decode cX1_first 4 = .ok (.iconst 0, 1) := by decide +kernel
theorem dX1_first_5 : decode cX1_first 5 = .ok (.iaload, 1) := by decide +kernel
theorem dX1_first_6 : decode cX1_first 6 = .ok (.ireturn, 1) := by decide +kernel
theorem dX1_second_0 : decode cX1_second 0 = .ok (.aload_n 0, 1) := by decide +kernel
theorem dX1_second_1 : decode cX1_second 1 = .ok (.getfield 20, 3) := by decide +kernel
theorem dX1_second_4 : decode cX1_second 4 = .ok (.iconst 1, 1) := by decide +kernel
theorem dX1_second_5 : decode cX1_second 5 = .ok (.iaload, 1) := by decide +kernel
theorem dX1_second_6 : decode cX1_second 6 = .ok (.ireturn, 1) := by decide +kernel
theorem dX1_third_0 : decode cX1_third 0 = .ok (.aload_n 0, 1) := by decide +kernel
theorem dX1_third_1 : decode cX1_third 1 = .ok (.getfield 20, 3) := by decide +kernel
theorem dX1_third_4 : decode cX1_third 4 = .ok (.iconst 2, 1) := by decide +kernel
theorem dX1_third_5 : decode cX1_third 5 = .ok (.iaload, 1) := by decide +kernel
theorem dX1_third_6 : decode cX1_third 6 = .ok (.ireturn, 1) := by decide +kernel
theorem dX1_put_0 : decode cX1_put 0 = .ok (.iload_n 1, 1) := by decide +kernel
theorem dX1_put_1 : decode cX1_put 1 = .ok (.ifCond .lt 15, 3) := by decide +kernel
theorem dX1_put_4 : decode cX1_put 4 = .ok (.iload_n 1, 1) := by decide +kernel
theorem dX1_put_5 : decode cX1_put 5 = .ok (.iconst 3, 1) := by decide +kernel
theorem dX1_put_6 : decode cX1_put 6 = .ok (.if_icmp .ge 10, 3) := by decide +kernel
theorem dX1_put_9 : decode cX1_put 9 = .ok (.aload_n 0, 1) := by decide +kernel
theorem dX1_put_10 : decode cX1_put 10 = .ok (.getfield 20, 3) := by decide +kernel
theorem dX1_put_13 : decode cX1_put 13 = .ok (.iload_n 1, 1) := by decide +kernel
theorem dX1_put_14 : decode cX1_put 14 = .ok (.iload_n 2, 1) := by decide +kernel
theorem dX1_put_15 : decode cX1_put 15 = .ok (.iastore, 1) := by decide +kernel
theorem dX1_put_16 : decode cX1_put 16 = .ok (.return_, 1) := by decide +kernel
theorem dX2_init_0 : decode cX2_init 0 = .ok (.aload_n 0, 1) := by decide +kernel
theorem dX2_init_1 : decode cX2_init 1 = .ok (.invokespecial 3, 3) := by decide +kernel
theorem dX2_init_4 : decode cX2_init 4 = .ok (.aload_n 0, 1) := by decide +kernel
theorem dX2_init_5 : decode cX2_init 5 = .ok (.bipush 60, 2) := by decide +kernel
theorem dX2_init_7 : decode cX2_init 7 = .ok (.newarray .char, 2) := by decide +kernel
theorem dX2_init_9 : decode cX2_init 9 = .ok (.putfield 9, 3) := by decide +kernel
theorem dX2_init_12 : decode cX2_init 12 = .ok (.aload_n 0, 1) := by decide +kernel
theorem dX2_init_13 : decode cX2_init 13 = .ok (.bipush 12, 2) := by decide +kernel
theorem dX2_init_15 : decode cX2_init 15 = .ok (.anewarray 15, 3) := by decide +kernel
theorem dX2_init_18 : decode cX2_init 18 = .ok (.putfield 17, 3) := by decide +kernel
theorem dX2_init_21 : decode cX2_init 21 = .ok (.iconst 0, 1) := by decide +kernel
theorem dX2_init_22 : decode cX2_init 22 = .ok (.istore_n 1, 1) := by decide +kernel
theorem dX2_init_23 : decode cX2_init 23 = .ok (.iload_n 1, 1) := by decide +kernel
theorem dX2_init_24 : decode cX2_init 24 = .ok (.bipush 12, 2) := by decide +kernel
theorem dX2_init_26 : decode cX2_init 26 = .ok (.if_icmp .ge 22, 3) := by decide +kernel
theorem dX2_init_29 : decode cX2_init 29 = .ok (.aload_n 0, 1) := by decide +kernel
theorem dX2_init_30 : decode cX2_init 30 = .ok (.getfield 17, 3) := by decide +kernel
theorem dX2_init_33 : decode cX2_init 33 = .ok (.iload_n 1, 1) := by decide +kernel
theorem dX2_init_34 : decode cX2_init 34 = .ok (.new 15, 3) := by decide +kernel
theorem dX2_init_37 : decode cX2_init 37 = .ok (.dup, 1) := by decide +kernel
theorem dX2_init_38 : decode cX2_init 38 = .ok (.invokespecial 21, 3) := by decide +kernel
theorem dX2_init_41 : decode cX2_init 41 = .ok (.aastore, 1) := by decide +kernel
theorem dX2_init_42 : decode cX2_init 42 = .ok (.iinc 1 1, 3) := by decide +kernel
theorem dX2_init_45 : decode cX2_init 45 = .ok (.goto (-22), 3) := by decide +kernel
theorem dX2_init_48 : decode cX2_init 48 = .ok (.return_, 1) := by decide +kernel
theorem dX2_append_0 : decode cX2_append 0 = .ok (.aload_n 0, 1) := by decide +kernel
theorem dX2_append_1 : decode cX2_append 1 = .ok (.getfield 22, 3) := by decide +kernel
theorem dX2_append_4 : decode cX2_append 4 = .ok (.bipush 60, 2) := by decide +kernel
theorem dX2_append_6 : decode cX2_append 6 = .ok (.if_icmp .ge 23, 3) := by decide +kernel
theorem dX2_append_9 : decode cX2_append 9 = .ok (.aload_n 0, 1) := by decide +kernel
theorem dX2_append_10 : decode cX2_append 10 = .ok (.getfield 9, 3) := by decide +kernel
theorem dX2_append_13 : decode cX2_append 13 = .ok (.aload_n 0, 1) := by decide +kernel
theorem dX2_append_14 : decode cX2_append 14 = .ok (.getfield 22, 3) := by decide +kernel
theorem dX2_append_17 : decode cX2_append 17 = .ok (.iload_n 1, 1) := by decide +kernel
theorem dX2_append_18 : decode cX2_append 18 = .ok (.castore, 1) := by decide +kernel
theorem dX2_append_19 : decode cX2_append 19 = .ok (.aload_n 0, 1) := by decide +kernel
theorem dX2_append_20 : decode cX2_append 20 = .ok (.dup, 1) := by decide +kernel
theorem dX2_append_21 : decode cX2_append 21 = .ok (.getfield 22, 3) := by decide +kernel
theorem dX2_append_24 : decode cX2_append 24 = .ok (.iconst 1, 1) := by decide +kernel
theorem dX2_append_25 : decode cX2_append 25 = .ok (.iadd, 1) := by decide +kernel
theorem dX2_append_26 : decode cX2_append 26 = .ok (.putfield 22, 3) := by decide +kernel
theorem dX2_append_29 : decode cX2_append 29 = .ok (.aload_n 0, 1) := by decide +kernel
theorem dX2_append_30 : decode cX2_append 30 = .ok (.getfield 22, 3) := by decide +kernel
theorem dX2_append_33 : decode cX2_append 33 = .ok (.ireturn, 1) := by decide +kernel
theorem dX2_clear_0 : decode cX2_clear 0 = .ok (.aload_n 0, 1) := by decide +kernel
theorem dX2_clear_1 : decode cX2_clear 1 = .ok (.iconst 0, 1) := by decide +kernel
theorem dX2_clear_2 : decode cX2_clear 2 = .ok (.putfield 22, 3) := by decide +kernel
theorem dX2_clear_5 : decode cX2_clear 5 = .ok (.return_, 1) := by decide +kernel
theorem dX2_parse_0 : decode cX2_parse 0 = .ok (.aload_n 0, 1) := by decide +kernel
theorem dX2_parse_1 : decode cX2_parse 1 = .ok (.iconst 0, 1) := by decide +kernel
theorem dX2_parse_2 : decode cX2_parse 2 = .ok (.putfield 26, 3) := by decide +kernel
theorem dX2_parse_5 : decode cX2_parse 5 = .ok (.aload_n 0, 1) := by decide +kernel
theorem dX2_parse_6 : decode cX2_parse 6 = .ok (.iconst 0, 1) := by decide +kernel
theorem dX2_parse_7 : decode cX2_parse 7 = .ok (.putfield 29, 3) := by decide +kernel
theorem dX2_parse_10 : decode cX2_parse 10 = .ok (.iconst 0, 1) := by decide +kernel
theorem dX2_parse_11 : decode cX2_parse 11 = .ok (.istore_n 1, 1) := by decide +kernel
theorem dX2_parse_12 : decode cX2_parse 12 = .ok (.iload_n 1, 1) := by decide +kernel
theorem dX2_parse_13 : decode cX2_parse 13 = .ok (.bipush 12, 2) := by decide +kernel
theorem dX2_parse_15 : decode cX2_parse 15 = .ok (.if_icmp .ge 68, 3) := by decide +kernel
theorem dX2_parse_18 : decode cX2_parse 18 = .ok (.aload_n 0, 1) := by decide +kernel
theorem dX2_parse_19 : decode cX2_parse 19 = .ok (.aload_n 0, 1) := by decide +kernel
theorem dX2_parse_20 : decode cX2_parse 20 = .ok (.getfield 17, 3) := by decide +kernel
theorem dX2_parse_23 : decode cX2_parse 23 = .ok (.iload_n 1, 1) := by decide +kernel
theorem dX2_parse_24 : decode cX2_parse 24 = .ok (.aaload, 1) := by decide +kernel
theorem dX2_parse_25 : decode cX2_parse 25 = .ok (.invokevirtual 32, 3) := by decide +kernel
theorem dX2_parse_28 : decode cX2_parse 28 = .ok (.ifCond .ne 5, 3) := by decide +kernel
theorem dX2_parse_31 : decode cX2_parse 31 = .ok (.iconst 0, 1) := by decide +kernel
theorem dX2_parse_32 : decode cX2_parse 32 = .ok (.ireturn, 1) := by decide +kernel
theorem dX2_parse_33 : decode cX2_parse 33 = .ok (.aload_n 0, 1) := by decide +kernel
theorem dX2_parse_34 : decode cX2_parse 34 = .ok (.dup, 1) := by decide +kernel
theorem dX2_parse_35 : decode cX2_parse 35 = .ok (.getfield 29, 3) := by decide +kernel
theorem dX2_parse_38 : decode cX2_parse 38 = .ok (.iconst 1, 1) := by decide +kernel
theorem dX2_parse_39 : decode cX2_parse 39 = .ok (.iadd, 1) := by decide +kernel
theorem dX2_parse_40 : decode cX2_parse 40 = .ok (.putfield 29, 3) := by decide +kernel
theorem dX2_parse_43 : decode cX2_parse 43 = .ok (.aload_n 0, 1) := by decide +kernel
theorem dX2_parse_44 : decode cX2_parse 44 = .ok (.getfield 26, 3) := by decide +kernel
theorem dX2_parse_47 : decode cX2_parse 47 = .ok (.aload_n 0, 1) := by decide +kernel
theorem dX2_parse_48 : decode cX2_parse 48 = .ok (.getfield 22, 3) := by decide +kernel
theorem dX2_parse_51 : decode cX2_parse 51 = .ok (.if_icmp .lt 5, 3) := by decide +kernel
theorem dX2_parse_54 : decode cX2_parse 54 = .ok (.iconst 1, 1) := by decide +kernel
theorem dX2_parse_55 : decode cX2_parse 55 = .ok (.ireturn, 1) := by decide +kernel
theorem dX2_parse_56 : decode cX2_parse 56 = .ok (.aload_n 0, 1) := by decide +kernel
theorem dX2_parse_57 : decode cX2_parse 57 = .ok (.bipush 59, 2) := by decide +kernel
theorem dX2_parse_59 : decode cX2_parse 59 = .ok (.invokevirtual 36, 3) := by decide +kernel
theorem dX2_parse_62 : decode cX2_parse 62 = .ok (.ifCond .ne 5, 3) := by decide +kernel
theorem dX2_parse_65 : decode cX2_parse 65 = .ok (.iconst 0, 1) := by decide +kernel
theorem dX2_parse_66 : decode cX2_parse 66 = .ok (.ireturn, 1) := by decide +kernel
theorem dX2_parse_67 : decode cX2_parse 67 = .ok (.aload_n 0, 1) := by decide +kernel
theorem dX2_parse_68 : decode cX2_parse 68 = .ok (.dup, 1) := by decide +kernel
theorem dX2_parse_69 : decode cX2_parse 69 = .ok (.getfield 26, 3) := by decide +kernel
theorem dX2_parse_72 : decode cX2_parse 72 = .ok (.iconst 1, 1) := by decide +kernel
theorem dX2_parse_73 : decode cX2_parse 73 = .ok (.iadd, 1) := by decide +kernel
theorem dX2_parse_74 : decode cX2_parse 74 = .ok (.putfield 26, 3) := by decide +kernel
theorem dX2_parse_77 : decode cX2_parse 77 = .ok (.iinc 1 1, 3) := by decide +kernel
theorem dX2_parse_80 : decode cX2_parse 80 = .ok (.goto (-68), 3) := by decide +kernel
theorem dX2_parse_83 : decode cX2_parse 83 = .ok (.iconst 0, 1) := by decide +kernel
theorem dX2_parse_84 : decode cX2_parse 84 = .ok (.ireturn, 1) := by decide +kernel
theorem dX2_readCommand_0 : decode cX2_readCommand 0 = .ok (.aload_n 0, 1) := by decide +kernel
theorem dX2_readCommand_1 : decode cX2_readCommand 1 = .ok (.invokevirtual 40, 3) := by decide +kernel
theorem dX2_readCommand_4 : decode cX2_readCommand 4 = .ok (.astore_n 2, 1) := by decide +kernel
theorem dX2_readCommand_5 : decode cX2_readCommand 5 = .ok (.aload_n 2, 1) := by decide +kernel
theorem dX2_readCommand_6 : decode cX2_readCommand 6 = .ok (.ifnonnull 5, 3) := by decide +kernel
theorem dX2_readCommand_9 : decode cX2_readCommand 9 = .ok (.iconst 0, 1) := by decide +kernel
theorem dX2_readCommand_10 : decode cX2_readCommand 10 = .ok (.ireturn, 1) := by decide +kernel
theorem dX2_readCommand_11 : decode cX2_readCommand 11 = .ok (.aload_n 1, 1) := by decide +kernel
theorem dX2_readCommand_12 : decode cX2_readCommand 12 = .ok (.aload_n 2, 1) := by decide +kernel
theorem dX2_readCommand_13 : decode cX2_readCommand 13 = .ok (.putfield 44, 3) := by decide +kernel
theorem dX2_readCommand_16 : decode cX2_readCommand 16 = .ok (.aload_n 2, 1) := by decide +kernel
theorem dX2_readCommand_17 : decode cX2_readCommand 17 = .ok (.getfield 48, 3) := by decide +kernel
theorem dX2_readCommand_20 : decode cX2_readCommand 20 = .ok (.ifCond .eq 20, 3) := by decide +kernel
theorem dX2_readCommand_23 : decode cX2_readCommand 23 = .ok (.aload_n 0, 1) := by decide +kernel
theorem dX2_readCommand_24 : decode cX2_readCommand 24 = .ok (.bipush 32, 2) := by decide +kernel
theorem dX2_readCommand_26 : decode cX2_readCommand 26 = .ok (.invokevirtual 36, 3) := by decide +kernel
theorem dX2_readCommand_29 : decode cX2_readCommand 29 = .ok (.ifCond .ne 11, 3) := by decide +kernel
theorem dX2_readCommand_32 : decode cX2_readCommand 32 = .ok (.aload_n 1, 1) := by decide +kernel
theorem dX2_readCommand_33 : decode cX2_readCommand 33 = .ok (.iconst 0, 1) := by decide +kernel
theorem dX2_readCommand_34 : decode cX2_readCommand 34 = .ok (.iconst 1, 1) := by decide +kernel
theorem dX2_readCommand_35 : decode cX2_readCommand 35 = .ok (.invokevirtual 54, 3) := by decide +kernel
theorem dX2_readCommand_38 : decode cX2_readCommand 38 = .ok (.iconst 1, 1) := by decide +kernel
theorem dX2_readCommand_39 : decode cX2_readCommand 39 = .ok (.ireturn, 1) := by decide +kernel
theorem dX2_readCommand_40 : decode cX2_readCommand 40 = .ok (.iconst 0, 1) := by decide +kernel
theorem dX2_readCommand_41 : decode cX2_readCommand 41 = .ok (.istore_n 3, 1) := by decide +kernel
theorem dX2_readCommand_42 : decode cX2_readCommand 42 = .ok (.iload_n 3, 1) := by decide +kernel
theorem dX2_readCommand_43 : decode cX2_readCommand 43 = .ok (.aload_n 2, 1) := by decide +kernel
theorem dX2_readCommand_44 : decode cX2_readCommand 44 = .ok (.getfield 58, 3) := by decide +kernel
theorem dX2_readCommand_47 : decode cX2_readCommand 47 = .ok (.invokevirtual 62, 3) := by decide +kernel
theorem dX2_readCommand_50 : decode cX2_readCommand 50 = .ok (.if_icmp .ge 41, 3) := by decide +kernel
theorem dX2_readCommand_53 : decode cX2_readCommand 53 = .ok (.aload_n 0, 1) := by decide +kernel
theorem dX2_readCommand_54 : decode cX2_readCommand 54 = .ok (.aload_n 2, 1) := by decide +kernel
theorem dX2_readCommand_55 : decode cX2_readCommand 55 = .ok (.getfield 58, 3) := by decide +kernel
theorem dX2_readCommand_58 : decode cX2_readCommand 58 = .ok (.iload_n 3, 1) := by decide +kernel
theorem dX2_readCommand_59 : decode cX2_readCommand 59 = .ok (.invokevirtual 67, 3) := by decide +kernel
theorem dX2_readCommand_62 : decode cX2_readCommand 62 = .ok (.bipush 48, 2) := by decide +kernel
theorem dX2_readCommand_64 : decode cX2_readCommand 64 = .ok (.isub, 1) := by decide +kernel
theorem dX2_readCommand_65 : decode cX2_readCommand 65 = .ok (.invokevirtual 71, 3) := by decide +kernel
theorem dX2_readCommand_68 : decode cX2_readCommand 68 = .ok (.istore 4, 2) := by decide +kernel
theorem dX2_readCommand_70 : decode cX2_readCommand 70 = .ok (.iload 4, 2) := by decide +kernel
theorem dX2_readCommand_72 : decode cX2_readCommand 72 = .ok (.iconst (-1), 1) := by decide +kernel
theorem dX2_readCommand_73 : decode cX2_readCommand 73 = .ok (.if_icmp .ne 5, 3) := by decide +kernel
theorem dX2_readCommand_76 : decode cX2_readCommand 76 = .ok (.iconst 0, 1) := by decide +kernel
theorem dX2_readCommand_77 : decode cX2_readCommand 77 = .ok (.ireturn, 1) := by decide +kernel
theorem dX2_readCommand_78 : decode cX2_readCommand 78 = .ok (.aload_n 1, 1) := by decide +kernel
theorem dX2_readCommand_79 : decode cX2_readCommand 79 = .ok (.iload_n 3, 1) := by decide +kernel
theorem dX2_readCommand_80 : decode cX2_readCommand 80 = .ok (.iload 4, 2) := by decide +kernel
theorem dX2_readCommand_82 : decode cX2_readCommand 82 = .ok (.invokevirtual 54, 3) := by decide +kernel
theorem dX2_readCommand_85 : decode cX2_readCommand 85 = .ok (.iinc 3 1, 3) := by decide +kernel
theorem dX2_readCommand_88 : decode cX2_readCommand 88 = .ok (.goto (-46), 3) := by decide +kernel
theorem dX2_readCommand_91 : decode cX2_readCommand 91 = .ok (.iconst 1, 1) := by decide +kernel
theorem dX2_readCommand_92 : decode cX2_readCommand 92 = .ok (.ireturn, 1) := by decide +kernel
theorem dX2_readKeyword_0 : decode cX2_readKeyword 0 = .ok (.iconst 0, 1) := by decide +kernel
theorem dX2_readKeyword_1 : decode cX2_readKeyword 1 = .ok (.istore_n 1, 1) := by decide +kernel
theorem dX2_readKeyword_2 : decode cX2_readKeyword 2 = .ok (.iconst 0, 1) := by decide +kernel
theorem dX2_readKeyword_3 : decode cX2_readKeyword 3 = .ok (.istore_n 2, 1) := by decide +kernel
theorem dX2_readKeyword_4 : decode cX2_readKeyword 4 = .ok (.iload_n 2, 1) := by decide +kernel
theorem dX2_readKeyword_5 : decode cX2_readKeyword 5 = .ok (.getstatic 75, 3) := by decide +kernel
theorem dX2_readKeyword_8 : decode cX2_readKeyword 8 = .ok (.arraylength, 1) := by decide +kernel
theorem dX2_readKeyword_9 : decode cX2_readKeyword 9 = .ok (.if_icmp .ge 58, 3) := by decide +kernel
theorem dX2_readKeyword_12 : decode cX2_readKeyword 12 = .ok (.getstatic 75, 3) := by decide +kernel
theorem dX2_readKeyword_15 : decode cX2_readKeyword 15 = .ok (.iload_n 2, 1) := by decide +kernel
theorem dX2_readKeyword_16 : decode cX2_readKeyword 16 = .ok (.aaload, 1) := by decide +kernel
theorem dX2_readKeyword_17 : decode cX2_readKeyword 17 = .ok (.getfield 79, 3) := by decide +kernel
theorem dX2_readKeyword_20 : decode cX2_readKeyword 20 = .ok (.astore_n 3, 1) := by decide +kernel
theorem dX2_readKeyword_21 : decode cX2_readKeyword 21 = .ok (.aload_n 0, 1) := by decide +kernel
theorem dX2_readKeyword_22 : decode cX2_readKeyword 22 = .ok (.aload_n 3, 1) := by decide +kernel
theorem dX2_readKeyword_23 : decode cX2_readKeyword 23 = .ok (.invokevirtual 82, 3) := by decide +kernel
theorem dX2_readKeyword_26 : decode cX2_readKeyword 26 = .ok (.istore 4, 2) := by decide +kernel
theorem dX2_readKeyword_28 : decode cX2_readKeyword 28 = .ok (.iload 4, 2) := by decide +kernel
theorem dX2_readKeyword_30 : decode cX2_readKeyword 30 = .ok (.aload_n 3, 1) := by decide +kernel
theorem dX2_readKeyword_31 : decode cX2_readKeyword 31 = .ok (.invokevirtual 62, 3) := by decide +kernel
theorem dX2_readKeyword_34 : decode cX2_readKeyword 34 = .ok (.if_icmp .ne 20, 3) := by decide +kernel
theorem dX2_readKeyword_37 : decode cX2_readKeyword 37 = .ok (.aload_n 0, 1) := by decide +kernel
theorem dX2_readKeyword_38 : decode cX2_readKeyword 38 = .ok (.dup, 1) := by decide +kernel
theorem dX2_readKeyword_39 : decode cX2_readKeyword 39 = .ok (.getfield 26, 3) := by decide +kernel
theorem dX2_readKeyword_42 : decode cX2_readKeyword 42 = .ok (.iload 4, 2) := by decide +kernel
theorem dX2_readKeyword_44 : decode cX2_readKeyword 44 = .ok (.iadd, 1) := by decide +kernel
theorem dX2_readKeyword_45 : decode cX2_readKeyword 45 = .ok (.putfield 26, 3) := by decide +kernel
theorem dX2_readKeyword_48 : decode cX2_readKeyword 48 = .ok (.getstatic 75, 3) := by decide +kernel
theorem dX2_readKeyword_51 : decode cX2_readKeyword 51 = .ok (.iload_n 2, 1) := by decide +kernel
theorem dX2_readKeyword_52 : decode cX2_readKeyword 52 = .ok (.aaload, 1) := by decide +kernel
theorem dX2_readKeyword_53 : decode cX2_readKeyword 53 = .ok (.areturn, 1) := by decide +kernel
theorem dX2_readKeyword_54 : decode cX2_readKeyword 54 = .ok (.iload_n 1, 1) := by decide +kernel
theorem dX2_readKeyword_55 : decode cX2_readKeyword 55 = .ok (.iload 4, 2) := by decide +kernel
theorem dX2_readKeyword_57 : decode cX2_readKeyword 57 = .ok (.invokestatic 86, 3) := by decide +kernel
theorem dX2_readKeyword_60 : decode cX2_readKeyword 60 = .ok (.istore_n 1, 1) := by decide +kernel
theorem dX2_readKeyword_61 : decode cX2_readKeyword 61 = .ok (.iinc 2 1, 3) := by decide +kernel
theorem dX2_readKeyword_64 : decode cX2_readKeyword 64 = .ok (.goto (-60), 3) := by decide +kernel
theorem dX2_readKeyword_67 : decode cX2_readKeyword 67 = .ok (.aload_n 0, 1) := by decide +kernel
theorem dX2_readKeyword_68 : decode cX2_readKeyword 68 = .ok (.dup, 1) := by decide +kernel
theorem dX2_readKeyword_69 : decode cX2_readKeyword 69 = .ok (.getfield 26, 3) := by decide +kernel
theorem dX2_readKeyword_72 : decode cX2_readKeyword 72 = .ok (.iload_n 1, 1) := by decide +kernel
theorem dX2_readKeyword_73 : decode cX2_readKeyword 73 = .ok (.iadd, 1) := by decide +kernel
theorem dX2_readKeyword_74 : decode cX2_readKeyword 74 = .ok (.putfield 26, 3) := by decide +kernel
theorem dX2_readKeyword_77 : decode cX2_readKeyword 77 = .ok (.aconst_null, 1) := by decide +kernel
theorem dX2_readKeyword_78 : decode cX2_readKeyword 78 = .ok (.areturn, 1) := by decide +kernel
theorem dX2_commonLetters_0 : decode cX2_commonLetters 0 = .ok (.iconst 0, 1) := by decide +kernel
theorem dX2_commonLetters_1 : decode cX2_commonLetters 1 = .ok (.istore_n 2, 1) := by decide +kernel
theorem dX2_commonLetters_2 : decode cX2_commonLetters 2 = .ok (.iload_n 2, 1) := by decide +kernel
theorem dX2_commonLetters_3 : decode cX2_commonLetters 3 = .ok (.aload_n 1, 1) := by decide +kernel
theorem dX2_commonLetters_4 : decode cX2_commonLetters 4 = .ok (.invokevirtual 62, 3) := by decide +kernel
theorem dX2_commonLetters_7 : decode cX2_commonLetters 7 = .ok (.if_icmp .ge 41, 3) := by decide +kernel
theorem dX2_commonLetters_10 : decode cX2_commonLetters 10 = .ok (.aload_n 0, 1) := by decide +kernel
theorem dX2_commonLetters_11 : decode cX2_commonLetters 11 = .ok (.getfield 26, 3) := by decide +kernel
theorem dX2_commonLetters_14 : decode cX2_commonLetters 14 = .ok (.iload_n 2, 1) := by decide +kernel
theorem dX2_commonLetters_15 : decode cX2_commonLetters 15 = .ok (.iadd, 1) := by decide +kernel
theorem dX2_commonLetters_16 : decode cX2_commonLetters 16 = .ok (.aload_n 0, 1) := by decide +kernel
theorem dX2_commonLetters_17 : decode cX2_commonLetters 17 = .ok (.getfield 22, 3) := by decide +kernel
theorem dX2_commonLetters_20 : decode cX2_commonLetters 20 = .ok (.if_icmp .ge 28, 3) := by decide +kernel
theorem dX2_commonLetters_23 : decode cX2_commonLetters 23 = .ok (.aload_n 0, 1) := by decide +kernel
theorem dX2_commonLetters_24 : decode cX2_commonLetters 24 = .ok (.getfield 9, 3) := by decide +kernel
theorem dX2_commonLetters_27 : decode cX2_commonLetters 27 = .ok (.aload_n 0, 1) := by decide +kernel
theorem dX2_commonLetters_28 : decode cX2_commonLetters 28 = .ok (.getfield 26, 3) := by decide +kernel
theorem dX2_commonLetters_31 : decode cX2_commonLetters 31 = .ok (.iload_n 2, 1) := by decide +kernel
theorem dX2_commonLetters_32 : decode cX2_commonLetters 32 = .ok (.iadd, 1) := by decide +kernel
theorem dX2_commonLetters_33 : decode cX2_commonLetters 33 = .ok (.caload, 1) := by decide +kernel
theorem dX2_commonLetters_34 : decode cX2_commonLetters 34 = .ok (.aload_n 1, 1) := by decide +kernel
theorem dX2_commonLetters_35 : decode cX2_commonLetters 35 = .ok (.iload_n 2, 1) := by decide +kernel
theorem dX2_commonLetters_36 : decode cX2_commonLetters 36 = .ok (.invokevirtual 67, 3) := by decide +kernel
theorem dX2_commonLetters_39 : decode cX2_commonLetters 39 = .ok (.if_icmp .ne 9, 3) := by decide +kernel
theorem dX2_commonLetters_42 : decode cX2_commonLetters 42 = .ok (.iinc 2 1, 3) := by decide +kernel
theorem dX2_commonLetters_45 : decode cX2_commonLetters 45 = .ok (.goto (-43), 3) := by decide +kernel
theorem dX2_commonLetters_48 : decode cX2_commonLetters 48 = .ok (.iload_n 2, 1) := by decide +kernel
theorem dX2_commonLetters_49 : decode cX2_commonLetters 49 = .ok (.ireturn, 1) := by decide +kernel
theorem dX2_readBlankAndNumber_0 : decode cX2_readBlankAndNumber 0 = .ok (.aload_n 0, 1) := by decide +kernel
theorem dX2_readBlankAndNumber_1 : decode cX2_readBlankAndNumber 1 = .ok (.bipush 32, 2) := by decide +kernel
theorem dX2_readBlankAndNumber_3 : decode cX2_readBlankAndNumber 3 = .ok (.invokevirtual 36, 3) := by decide +kernel
theorem dX2_readBlankAndNumber_6 : decode cX2_readBlankAndNumber 6 = .ok (.ifCond .ne 5, 3) := by decide +kernel
theorem dX2_readBlankAndNumber_9 : decode cX2_readBlankAndNumber 9 = .ok (.iconst (-1), 1) := by decide +kernel
theorem dX2_readBlankAndNumber_10 : decode cX2_readBlankAndNumber 10 = .ok (.ireturn, 1) := by decide +kernel
theorem dX2_readBlankAndNumber_11 : decode cX2_readBlankAndNumber 11 = .ok (.aload_n 0, 1) := by decide +kernel
theorem dX2_readBlankAndNumber_12 : decode cX2_readBlankAndNumber 12 = .ok (.dup, 1) := by decide +kernel
theorem dX2_readBlankAndNumber_13 : decode cX2_readBlankAndNumber 13 = .ok (.getfield 26, 3) := by decide +kernel
theorem dX2_readBlankAndNumber_16 : decode cX2_readBlankAndNumber 16 = .ok (.iconst 1, 1) := by decide +kernel
theorem dX2_readBlankAndNumber_17 : decode cX2_readBlankAndNumber 17 = .ok (.iadd, 1) := by decide +kernel
theorem dX2_readBlankAndNumber_18 : decode cX2_readBlankAndNumber 18 = .ok (.putfield 26, 3) := by decide +kernel
theorem dX2_readBlankAndNumber_21 : decode cX2_readBlankAndNumber 21 = .ok (.aload_n 0, 1) := by decide +kernel
theorem dX2_readBlankAndNumber_22 : decode cX2_readBlankAndNumber 22 = .ok (.invokevirtual 92, 3) := by decide +kernel
theorem dX2_readBlankAndNumber_25 : decode cX2_readBlankAndNumber 25 = .ok (.ifCond .ne 5, 3) := by decide +kernel
theorem dX2_readBlankAndNumber_28 : decode cX2_readBlankAndNumber 28 = .ok (.iconst (-1), 1) := by decide +kernel
theorem dX2_readBlankAndNumber_29 : decode cX2_readBlankAndNumber 29 = .ok (.ireturn, 1) := by decide +kernel
theorem dX2_readBlankAndNumber_30 : decode cX2_readBlankAndNumber 30 = .ok (.iconst 0, 1) := by decide +kernel
theorem dX2_readBlankAndNumber_31 : decode cX2_readBlankAndNumber 31 = .ok (.istore_n 2, 1) := by decide +kernel
theorem dX2_readBlankAndNumber_32 : decode cX2_readBlankAndNumber 32 = .ok (.iconst 0, 1) := by decide +kernel
theorem dX2_readBlankAndNumber_33 : decode cX2_readBlankAndNumber 33 = .ok (.istore_n 3, 1) := by decide +kernel
theorem dX2_readBlankAndNumber_34 : decode cX2_readBlankAndNumber 34 = .ok (.iload_n 3, 1) := by decide +kernel
theorem dX2_readBlankAndNumber_35 : decode cX2_readBlankAndNumber 35 = .ok (.iload_n 1, 1) := by decide +kernel
theorem dX2_readBlankAndNumber_36 : decode cX2_readBlankAndNumber 36 = .ok (.if_icmp .ge 44, 3) := by decide +kernel
theorem dX2_readBlankAndNumber_39 : decode cX2_readBlankAndNumber 39 = .ok (.aload_n 0, 1) := by decide +kernel
theorem dX2_readBlankAndNumber_40 : decode cX2_readBlankAndNumber 40 = .ok (.invokevirtual 92, 3) := by decide +kernel
theorem dX2_readBlankAndNumber_43 : decode cX2_readBlankAndNumber 43 = .ok (.ifCond .eq 37, 3) := by decide +kernel
theorem dX2_readBlankAndNumber_46 : decode cX2_readBlankAndNumber 46 = .ok (.iload_n 2, 1) := by decide +kernel
theorem dX2_readBlankAndNumber_47 : decode cX2_readBlankAndNumber 47 = .ok (.bipush 10, 2) := by decide +kernel
theorem dX2_readBlankAndNumber_49 : decode cX2_readBlankAndNumber 49 = .ok (.imul, 1) := by decide +kernel
theorem dX2_readBlankAndNumber_50 : decode cX2_readBlankAndNumber 50 = .ok (.aload_n 0, 1) := by decide +kernel
theorem dX2_readBlankAndNumber_51 : decode cX2_readBlankAndNumber 51 = .ok (.getfield 9, 3) := by decide +kernel
theorem dX2_readBlankAndNumber_54 : decode cX2_readBlankAndNumber 54 = .ok (.aload_n 0, 1) := by decide +kernel
theorem dX2_readBlankAndNumber_55 : decode cX2_readBlankAndNumber 55 = .ok (.getfield 26, 3) := by decide +kernel
theorem dX2_readBlankAndNumber_58 : decode cX2_readBlankAndNumber 58 = .ok (.caload, 1) := by decide +kernel
theorem dX2_readBlankAndNumber_59 : decode cX2_readBlankAndNumber 59 = .ok (.bipush 48, 2) := by decide +kernel
theorem dX2_readBlankAndNumber_61 : decode cX2_readBlankAndNumber 61 = .ok (.isub, 1) := by decide +kernel
theorem dX2_readBlankAndNumber_62 : decode cX2_readBlankAndNumber 62 = .ok (.iadd, 1) := by decide +kernel
theorem dX2_readBlankAndNumber_63 : decode cX2_readBlankAndNumber 63 = .ok (.istore_n 2, 1) := by decide +kernel
theorem dX2_readBlankAndNumber_64 : decode cX2_readBlankAndNumber 64 = .ok (.aload_n 0, 1) := by decide +kernel
theorem dX2_readBlankAndNumber_65 : decode cX2_readBlankAndNumber 65 = .ok (.dup, 1) := by decide +kernel
theorem dX2_readBlankAndNumber_66 : decode cX2_readBlankAndNumber 66 = .ok (.getfield 26, 3) := by decide +kernel
theorem dX2_readBlankAndNumber_69 : decode cX2_readBlankAndNumber 69 = .ok (.iconst 1, 1) := by decide +kernel
theorem dX2_readBlankAndNumber_70 : decode cX2_readBlankAndNumber 70 = .ok (.iadd, 1) := by decide +kernel
theorem dX2_readBlankAndNumber_71 : decode cX2_readBlankAndNumber 71 = .ok (.putfield 26, 3) := by decide +kernel
theorem dX2_readBlankAndNumber_74 : decode cX2_readBlankAndNumber 74 = .ok (.iinc 3 1, 3) := by decide +kernel
theorem dX2_readBlankAndNumber_77 : decode cX2_readBlankAndNumber 77 = .ok (.goto (-43), 3) := by decide +kernel
theorem dX2_readBlankAndNumber_80 : decode cX2_readBlankAndNumber 80 = .ok (.iload_n 2, 1) := by decide +kernel
theorem dX2_readBlankAndNumber_81 : decode cX2_readBlankAndNumber 81 = .ok (.ireturn, 1) := by decide +kernel
theorem dX2_isAt_0 : decode cX2_isAt 0 = .ok (.aload_n 0, 1) := by decide +kernel
theorem dX2_isAt_1 : decode cX2_isAt 1 = .ok (.getfield 26, 3) := by decide +kernel
theorem dX2_isAt_4 : decode cX2_isAt 4 = .ok (.aload_n 0, 1) := by decide +kernel
theorem dX2_isAt_5 : decode cX2_isAt 5 = .ok (.getfield 22, 3) := by decide +kernel
theorem dX2_isAt_8 : decode cX2_isAt 8 = .ok (.if_icmp .ge 20, 3) := by decide +kernel
theorem dX2_isAt_11 : decode cX2_isAt 11 = .ok (.aload_n 0, 1) := by decide +kernel
theorem dX2_isAt_12 : decode cX2_isAt 12 = .ok (.getfield 9, 3) := by decide +kernel
theorem dX2_isAt_15 : decode cX2_isAt 15 = .ok (.aload_n 0, 1) := by decide +kernel
theorem dX2_isAt_16 : decode cX2_isAt 16 = .ok (.getfield 26, 3) := by decide +kernel
theorem dX2_isAt_19 : decode cX2_isAt 19 = .ok (.caload, 1) := by decide +kernel
theorem dX2_isAt_20 : decode cX2_isAt 20 = .ok (.iload_n 1, 1) := by decide +kernel
theorem dX2_isAt_21 : decode cX2_isAt 21 = .ok (.if_icmp .ne 7, 3) := by decide +kernel
theorem dX2_isAt_24 : decode cX2_isAt 24 = .ok (.iconst 1, 1) := by decide +kernel
theorem dX2_isAt_25 : decode cX2_isAt 25 = .ok (.goto 4, 3) := by decide +kernel
theorem dX2_isAt_28 : decode cX2_isAt 28 = .ok (.iconst 0, 1) := by decide +kernel
theorem dX2_isAt_29 : decode cX2_isAt 29 = .ok (.ireturn, 1) := by decide +kernel
theorem dX2_isAtDigit_0 : decode cX2_isAtDigit 0 = .ok (.aload_n 0, 1) := by decide +kernel
theorem dX2_isAtDigit_1 : decode cX2_isAtDigit 1 = .ok (.getfield 26, 3) := by decide +kernel
theorem dX2_isAtDigit_4 : decode cX2_isAtDigit 4 = .ok (.aload_n 0, 1) := by decide +kernel
theorem dX2_isAtDigit_5 : decode cX2_isAtDigit 5 = .ok (.getfield 22, 3) := by decide +kernel
theorem dX2_isAtDigit_8 : decode cX2_isAtDigit 8 = .ok (.if_icmp .ge 35, 3) := by decide +kernel
theorem dX2_isAtDigit_11 : decode cX2_isAtDigit 11 = .ok (.aload_n 0, 1) := by decide +kernel
theorem dX2_isAtDigit_12 : decode cX2_isAtDigit 12 = .ok (.getfield 9, 3) := by decide +kernel
theorem dX2_isAtDigit_15 : decode cX2_isAtDigit 15 = .ok (.aload_n 0, 1) := by decide +kernel
theorem dX2_isAtDigit_16 : decode cX2_isAtDigit 16 = .ok (.getfield 26, 3) := by decide +kernel
theorem dX2_isAtDigit_19 : decode cX2_isAtDigit 19 = .ok (.caload, 1) := by decide +kernel
theorem dX2_isAtDigit_20 : decode cX2_isAtDigit 20 = .ok (.bipush 48, 2) := by decide +kernel
theorem dX2_isAtDigit_22 : decode cX2_isAtDigit 22 = .ok (.if_icmp .lt 21, 3) := by decide +kernel
theorem dX2_isAtDigit_25 : decode cX2_isAtDigit 25 = .ok (.aload_n 0, 1) := by decide +kernel
theorem dX2_isAtDigit_26 : decode cX2_isAtDigit 26 = .ok (.getfield 9, 3) := by decide +kernel
theorem dX2_isAtDigit_29 : decode cX2_isAtDigit 29 = .ok (.aload_n 0, 1) := by decide +kernel
theorem dX2_isAtDigit_30 : decode cX2_isAtDigit 30 = .ok (.getfield 26, 3) := by decide +kernel
theorem dX2_isAtDigit_33 : decode cX2_isAtDigit 33 = .ok (.caload, 1) := by decide +kernel
theorem dX2_isAtDigit_34 : decode cX2_isAtDigit 34 = .ok (.bipush 57, 2) := by decide +kernel
theorem dX2_isAtDigit_36 : decode cX2_isAtDigit 36 = .ok (.if_icmp .gt 7, 3) := by decide +kernel
theorem dX2_isAtDigit_39 : decode cX2_isAtDigit 39 = .ok (.iconst 1, 1) := by decide +kernel
theorem dX2_isAtDigit_40 : decode cX2_isAtDigit 40 = .ok (.goto 4, 3) := by decide +kernel
theorem dX2_isAtDigit_43 : decode cX2_isAtDigit 43 = .ok (.iconst 0, 1) := by decide +kernel
theorem dX2_isAtDigit_44 : decode cX2_isAtDigit 44 = .ok (.ireturn, 1) := by decide +kernel
theorem dX3_init_0 : decode cX3_init 0 = .ok (.aload_n 0, 1) := by decide +kernel
theorem dX3_init_1 : decode cX3_init 1 = .ok (.invokespecial 3, 3) := by decide +kernel
theorem dX3_init_4 : decode cX3_init 4 = .ok (.aload_n 0, 1) := by decide +kernel
theorem dX3_init_5 : decode cX3_init 5 = .ok (.bipush 6, 2) := by decide +kernel
theorem dX3_init_7 : decode cX3_init 7 = .ok (.newarray .int, 2) := by decide +kernel
theorem dX3_init_9 : decode cX3_init 9 = .ok (.putfield 9, 3) := by decide +kernel
theorem dX3_init_12 : decode cX3_init 12 = .ok (.aload_n 0, 1) := by decide +kernel
theorem dX3_init_13 : decode cX3_init 13 = .ok (.bipush 6, 2) := by decide +kernel
theorem dX3_init_15 : decode cX3_init 15 = .ok (.newarray .int, 2) := by decide +kernel
theorem dX3_init_17 : decode cX3_init 17 = .ok (.putfield 15, 3) := by decide +kernel
theorem dX3_init_20 : decode cX3_init 20 = .ok (.aload_n 0, 1) := by decide +kernel
theorem dX3_init_21 : decode cX3_init 21 = .ok (.bipush 6, 2) := by decide +kernel
theorem dX3_init_23 : decode cX3_init 23 = .ok (.newarray .boolean, 2) := by decide +kernel
theorem dX3_init_25 : decode cX3_init 25 = .ok (.putfield 18, 3) := by decide +kernel
theorem dX3_init_28 : decode cX3_init 28 = .ok (.return_, 1) := by decide +kernel
theorem dX3_shareByGiving_0 : decode cX3_shareByGiving 0 = .ok (.aload_n 1, 1) := by decide +kernel
theorem dX3_shareByGiving_1 : decode cX3_shareByGiving 1 = .ok (.getfield 22, 3) := by decide +kernel
theorem dX3_shareByGiving_4 : decode cX3_shareByGiving 4 = .ok (.iload_n 2, 1) := by decide +kernel
theorem dX3_shareByGiving_5 : decode cX3_shareByGiving 5 = .ok (.invokevirtual 28, 3) := by decide +kernel
theorem dX3_shareByGiving_8 : decode cX3_shareByGiving 8 = .ok (.ifCond .ne 5, 3) := by decide +kernel
theorem dX3_shareByGiving_11 : decode cX3_shareByGiving 11 = .ok (.iconst 0, 1) := by decide +kernel
theorem dX3_shareByGiving_12 : decode cX3_shareByGiving 12 = .ok (.ireturn, 1) := by decide +kernel
theorem dX3_shareByGiving_13 : decode cX3_shareByGiving 13 = .ok (.aload_n 0, 1) := by decide +kernel
theorem dX3_shareByGiving_14 : decode cX3_shareByGiving 14 = .ok (.aload_n 1, 1) := by decide +kernel
theorem dX3_shareByGiving_15 : decode cX3_shareByGiving 15 = .ok (.invokevirtual 34, 3) := by decide +kernel
theorem dX3_shareByGiving_18 : decode cX3_shareByGiving 18 = .ok (.iconst 0, 1) := by decide +kernel
theorem dX3_shareByGiving_19 : decode cX3_shareByGiving 19 = .ok (.istore_n 3, 1) := by decide +kernel
theorem dX3_shareByGiving_20 : decode cX3_shareByGiving 20 = .ok (.iload_n 3, 1) := by decide +kernel
theorem dX3_shareByGiving_21 : decode cX3_shareByGiving 21 = .ok (.aload_n 0, 1) := by decide +kernel
theorem dX3_shareByGiving_22 : decode cX3_shareByGiving 22 = .ok (.getfield 38, 3) := by decide +kernel
theorem dX3_shareByGiving_25 : decode cX3_shareByGiving 25 = .ok (.if_icmp .ge 20, 3) := by decide +kernel
theorem dX3_shareByGiving_28 : decode cX3_shareByGiving 28 = .ok (.aload_n 0, 1) := by decide +kernel
theorem dX3_shareByGiving_29 : decode cX3_shareByGiving 29 = .ok (.aload_n 1, 1) := by decide +kernel
theorem dX3_shareByGiving_30 : decode cX3_shareByGiving 30 = .ok (.getfield 22, 3) := by decide +kernel
theorem dX3_shareByGiving_33 : decode cX3_shareByGiving 33 = .ok (.getfield 42, 3) := by decide +kernel
theorem dX3_shareByGiving_36 : decode cX3_shareByGiving 36 = .ok (.invokevirtual 45, 3) := by decide +kernel
theorem dX3_shareByGiving_39 : decode cX3_shareByGiving 39 = .ok (.iinc 3 1, 3) := by decide +kernel
theorem dX3_shareByGiving_42 : decode cX3_shareByGiving 42 = .ok (.goto (-22), 3) := by decide +kernel
theorem dX3_shareByGiving_45 : decode cX3_shareByGiving 45 = .ok (.aload_n 0, 1) := by decide +kernel
theorem dX3_shareByGiving_46 : decode cX3_shareByGiving 46 = .ok (.getfield 9, 3) := by decide +kernel
theorem dX3_shareByGiving_49 : decode cX3_shareByGiving 49 = .ok (.iload_n 2, 1) := by decide +kernel
theorem dX3_shareByGiving_50 : decode cX3_shareByGiving 50 = .ok (.iaload, 1) := by decide +kernel
theorem dX3_shareByGiving_51 : decode cX3_shareByGiving 51 = .ok (.ireturn, 1) := by decide +kernel
theorem dX3_shareByRemainderRank_0 : decode cX3_shareByRemainderRank 0 = .ok (.aload_n 1, 1) := by decide +kernel
theorem dX3_shareByRemainderRank_1 : decode cX3_shareByRemainderRank 1 = .ok (.getfield 22, 3) := by decide +kernel
theorem dX3_shareByRemainderRank_4 : decode cX3_shareByRemainderRank 4 = .ok (.iload_n 2, 1) := by decide +kernel
theorem dX3_shareByRemainderRank_5 : decode cX3_shareByRemainderRank 5 = .ok (.invokevirtual 28, 3) := by decide +kernel
theorem dX3_shareByRemainderRank_8 : decode cX3_shareByRemainderRank 8 = .ok (.ifCond .ne 5, 3) := by decide +kernel
theorem dX3_shareByRemainderRank_11 : decode cX3_shareByRemainderRank 11 = .ok (.iconst 0, 1) := by decide +kernel
theorem dX3_shareByRemainderRank_12 : decode cX3_shareByRemainderRank 12 = .ok (.ireturn, 1) := by decide +kernel
theorem dX3_shareByRemainderRank_13 : decode cX3_shareByRemainderRank 13 = .ok (.aload_n 0, 1) := by decide +kernel
theorem dX3_shareByRemainderRank_14 : decode cX3_shareByRemainderRank 14 = .ok (.aload_n 1, 1) := by decide +kernel
theorem dX3_shareByRemainderRank_15 : decode cX3_shareByRemainderRank 15 = .ok (.invokevirtual 34, 3) := by decide +kernel
theorem dX3_shareByRemainderRank_18 : decode cX3_shareByRemainderRank 18 = .ok (.aload_n 0, 1) := by decide +kernel
theorem dX3_shareByRemainderRank_19 : decode cX3_shareByRemainderRank 19 = .ok (.getfield 9, 3) := by decide +kernel
theorem dX3_shareByRemainderRank_22 : decode cX3_shareByRemainderRank 22 = .ok (.iload_n 2, 1) := by decide +kernel
theorem dX3_shareByRemainderRank_23 : decode cX3_shareByRemainderRank 23 = .ok (.iaload, 1) := by decide +kernel
theorem dX3_shareByRemainderRank_24 : decode cX3_shareByRemainderRank 24 = .ok (.aload_n 0, 1) := by decide +kernel
theorem dX3_shareByRemainderRank_25 : decode cX3_shareByRemainderRank 25 = .ok (.iload_n 2, 1) := by decide +kernel
theorem dX3_shareByRemainderRank_26 : decode cX3_shareByRemainderRank 26 = .ok (.aload_n 1, 1) := by decide +kernel
theorem dX3_shareByRemainderRank_27 : decode cX3_shareByRemainderRank 27 = .ok (.getfield 22, 3) := by decide +kernel
theorem dX3_shareByRemainderRank_30 : decode cX3_shareByRemainderRank 30 = .ok (.getfield 42, 3) := by decide +kernel
theorem dX3_shareByRemainderRank_33 : decode cX3_shareByRemainderRank 33 = .ok (.invokevirtual 49, 3) := by decide +kernel
theorem dX3_shareByRemainderRank_36 : decode cX3_shareByRemainderRank 36 = .ok (.aload_n 0, 1) := by decide +kernel
theorem dX3_shareByRemainderRank_37 : decode cX3_shareByRemainderRank 37 = .ok (.getfield 38, 3) := by decide +kernel
theorem dX3_shareByRemainderRank_40 : decode cX3_shareByRemainderRank 40 = .ok (.if_icmp .ge 7, 3) := by decide +kernel
theorem dX3_shareByRemainderRank_43 : decode cX3_shareByRemainderRank 43 = .ok (.iconst 1, 1) := by decide +kernel
theorem dX3_shareByRemainderRank_44 : decode cX3_shareByRemainderRank 44 = .ok (.goto 4, 3) := by decide +kernel
theorem dX3_shareByRemainderRank_47 : decode cX3_shareByRemainderRank 47 = .ok (.iconst 0, 1) := by decide +kernel
theorem dX3_shareByRemainderRank_48 : decode cX3_shareByRemainderRank 48 = .ok (.iadd, 1) := by decide +kernel
theorem dX3_shareByRemainderRank_49 : decode cX3_shareByRemainderRank 49 = .ok (.ireturn, 1) := by decide +kernel
theorem dX3_divideRoundedDown_0 : decode cX3_divideRoundedDown 0 = .ok (.aload_n 1, 1) := by decide +kernel
theorem dX3_divideRoundedDown_1 : decode cX3_divideRoundedDown 1 = .ok (.getfield 53, 3) := by decide +kernel
theorem dX3_divideRoundedDown_4 : decode cX3_divideRoundedDown 4 = .ok (.invokevirtual 57, 3) := by decide +kernel
theorem dX3_divideRoundedDown_7 : decode cX3_divideRoundedDown 7 = .ok (.istore_n 2, 1) := by decide +kernel
theorem dX3_divideRoundedDown_8 : decode cX3_divideRoundedDown 8 = .ok (.aload_n 0, 1) := by decide +kernel
theorem dX3_divideRoundedDown_9 : decode cX3_divideRoundedDown 9 = .ok (.iload_n 2, 1) := by decide +kernel
theorem dX3_divideRoundedDown_10 : decode cX3_divideRoundedDown 10 = .ok (.ifCond .le 10, 3) := by decide +kernel
theorem dX3_divideRoundedDown_13 : decode cX3_divideRoundedDown 13 = .ok (.aload_n 1, 1) := by decide +kernel
theorem dX3_divideRoundedDown_14 : decode cX3_divideRoundedDown 14 = .ok (.getfield 63, 3) := by decide +kernel
theorem dX3_divideRoundedDown_17 : decode cX3_divideRoundedDown 17 = .ok (.goto 4, 3) := by decide +kernel
theorem dX3_divideRoundedDown_20 : decode cX3_divideRoundedDown 20 = .ok (.iconst 0, 1) := by decide +kernel
theorem dX3_divideRoundedDown_21 : decode cX3_divideRoundedDown 21 = .ok (.putfield 38, 3) := by decide +kernel
theorem dX3_divideRoundedDown_24 : decode cX3_divideRoundedDown 24 = .ok (.iconst 0, 1) := by decide +kernel
theorem dX3_divideRoundedDown_25 : decode cX3_divideRoundedDown 25 = .ok (.istore_n 3, 1) := by decide +kernel
theorem dX3_divideRoundedDown_26 : decode cX3_divideRoundedDown 26 = .ok (.iload_n 3, 1) := by decide +kernel
theorem dX3_divideRoundedDown_27 : decode cX3_divideRoundedDown 27 = .ok (.aload_n 1, 1) := by decide +kernel
theorem dX3_divideRoundedDown_28 : decode cX3_divideRoundedDown 28 = .ok (.getfield 22, 3) := by decide +kernel
theorem dX3_divideRoundedDown_31 : decode cX3_divideRoundedDown 31 = .ok (.getfield 42, 3) := by decide +kernel
theorem dX3_divideRoundedDown_34 : decode cX3_divideRoundedDown 34 = .ok (.if_icmp .ge 82, 3) := by decide +kernel
theorem dX3_divideRoundedDown_37 : decode cX3_divideRoundedDown 37 = .ok (.aload_n 1, 1) := by decide +kernel
theorem dX3_divideRoundedDown_38 : decode cX3_divideRoundedDown 38 = .ok (.getfield 63, 3) := by decide +kernel
theorem dX3_divideRoundedDown_41 : decode cX3_divideRoundedDown 41 = .ok (.aload_n 1, 1) := by decide +kernel
theorem dX3_divideRoundedDown_42 : decode cX3_divideRoundedDown 42 = .ok (.getfield 53, 3) := by decide +kernel
theorem dX3_divideRoundedDown_45 : decode cX3_divideRoundedDown 45 = .ok (.iload_n 3, 1) := by decide +kernel
theorem dX3_divideRoundedDown_46 : decode cX3_divideRoundedDown 46 = .ok (.invokevirtual 66, 3) := by decide +kernel
theorem dX3_divideRoundedDown_49 : decode cX3_divideRoundedDown 49 = .ok (.imul, 1) := by decide +kernel
theorem dX3_divideRoundedDown_50 : decode cX3_divideRoundedDown 50 = .ok (.istore 4, 2) := by decide +kernel
theorem dX3_divideRoundedDown_52 : decode cX3_divideRoundedDown 52 = .ok (.aload_n 0, 1) := by decide +kernel
theorem dX3_divideRoundedDown_53 : decode cX3_divideRoundedDown 53 = .ok (.getfield 9, 3) := by decide +kernel
theorem dX3_divideRoundedDown_56 : decode cX3_divideRoundedDown 56 = .ok (.iload_n 3, 1) := by decide +kernel
theorem dX3_divideRoundedDown_57 : decode cX3_divideRoundedDown 57 = .ok (.iload_n 2, 1) := by decide +kernel
theorem dX3_divideRoundedDown_58 : decode cX3_divideRoundedDown 58 = .ok (.ifCond .le 10, 3) := by decide +kernel
theorem dX3_divideRoundedDown_61 : decode cX3_divideRoundedDown 61 = .ok (.iload 4, 2) := by decide +kernel
theorem dX3_divideRoundedDown_63 : decode cX3_divideRoundedDown 63 = .ok (.iload_n 2, 1) := by decide +kernel
theorem dX3_divideRoundedDown_64 : decode cX3_divideRoundedDown 64 = .ok (.idiv, 1) := by decide +kernel
theorem dX3_divideRoundedDown_65 : decode cX3_divideRoundedDown 65 = .ok (.goto 4, 3) := by decide +kernel
theorem dX3_divideRoundedDown_68 : decode cX3_divideRoundedDown 68 = .ok (.iconst 0, 1) := by decide +kernel
theorem dX3_divideRoundedDown_69 : decode cX3_divideRoundedDown 69 = .ok (.iastore, 1) := by decide +kernel
theorem dX3_divideRoundedDown_70 : decode cX3_divideRoundedDown 70 = .ok (.aload_n 0, 1) := by decide +kernel
theorem dX3_divideRoundedDown_71 : decode cX3_divideRoundedDown 71 = .ok (.getfield 15, 3) := by decide +kernel
theorem dX3_divideRoundedDown_74 : decode cX3_divideRoundedDown 74 = .ok (.iload_n 3, 1) := by decide +kernel
theorem dX3_divideRoundedDown_75 : decode cX3_divideRoundedDown 75 = .ok (.iload_n 2, 1) := by decide +kernel
theorem dX3_divideRoundedDown_76 : decode cX3_divideRoundedDown 76 = .ok (.ifCond .le 10, 3) := by decide +kernel
theorem dX3_divideRoundedDown_79 : decode cX3_divideRoundedDown 79 = .ok (.iload 4, 2) := by decide +kernel
theorem dX3_divideRoundedDown_81 : decode cX3_divideRoundedDown 81 = .ok (.iload_n 2, 1) := by decide +kernel
theorem dX3_divideRoundedDown_82 : decode cX3_divideRoundedDown 82 = .ok (.irem, 1) := by decide +kernel
theorem dX3_divideRoundedDown_83 : decode cX3_divideRoundedDown 83 = .ok (.goto 4, 3) := by decide +kernel
theorem dX3_divideRoundedDown_86 : decode cX3_divideRoundedDown 86 = .ok (.iconst 0, 1) := by decide +kernel
theorem dX3_divideRoundedDown_87 : decode cX3_divideRoundedDown 87 = .ok (.iastore, 1) := by decide +kernel
theorem dX3_divideRoundedDown_88 : decode cX3_divideRoundedDown 88 = .ok (.aload_n 0, 1) := by decide +kernel
theorem dX3_divideRoundedDown_89 : decode cX3_divideRoundedDown 89 = .ok (.getfield 18, 3) := by decide +kernel
theorem dX3_divideRoundedDown_92 : decode cX3_divideRoundedDown 92 = .ok (.iload_n 3, 1) := by decide +kernel
theorem dX3_divideRoundedDown_93 : decode cX3_divideRoundedDown 93 = .ok (.iconst 0, 1) := by decide +kernel
theorem dX3_divideRoundedDown_94 : decode cX3_divideRoundedDown 94 = .ok (.bastore, 1) := by decide +kernel
theorem dX3_divideRoundedDown_95 : decode cX3_divideRoundedDown 95 = .ok (.aload_n 0, 1) := by decide +kernel
theorem dX3_divideRoundedDown_96 : decode cX3_divideRoundedDown 96 = .ok (.dup, 1) := by decide +kernel
theorem dX3_divideRoundedDown_97 : decode cX3_divideRoundedDown 97 = .ok (.getfield 38, 3) := by decide +kernel
theorem dX3_divideRoundedDown_100 : decode cX3_divideRoundedDown 100 = .ok (.aload_n 0, 1) := by decide +kernel
theorem dX3_divideRoundedDown_101 : decode cX3_divideRoundedDown 101 = .ok (.getfield 9, 3) := by decide +kernel
theorem dX3_divideRoundedDown_104 : decode cX3_divideRoundedDown 104 = .ok (.iload_n 3, 1) := by decide +kernel
theorem dX3_divideRoundedDown_105 : decode cX3_divideRoundedDown 105 = .ok (.iaload, 1) := by decide +kernel
theorem dX3_divideRoundedDown_106 : decode cX3_divideRoundedDown 106 = .ok (.isub, 1) := by decide +kernel
theorem dX3_divideRoundedDown_107 : decode cX3_divideRoundedDown 107 = .ok (.putfield 38, 3) := by decide +kernel
theorem dX3_divideRoundedDown_110 : decode cX3_divideRoundedDown 110 = .ok (.iinc 3 1, 3) := by decide +kernel
theorem dX3_divideRoundedDown_113 : decode cX3_divideRoundedDown 113 = .ok (.goto (-87), 3) := by decide +kernel
theorem dX3_divideRoundedDown_116 : decode cX3_divideRoundedDown 116 = .ok (.return_, 1) := by decide +kernel
theorem dX3_giveOneUnit_0 : decode cX3_giveOneUnit 0 = .ok (.iconst (-1), 1) := by decide +kernel
theorem dX3_giveOneUnit_1 : decode cX3_giveOneUnit 1 = .ok (.istore_n 2, 1) := by decide +kernel
theorem dX3_giveOneUnit_2 : decode cX3_giveOneUnit 2 = .ok (.iconst 0, 1) := by decide +kernel
theorem dX3_giveOneUnit_3 : decode cX3_giveOneUnit 3 = .ok (.istore_n 3, 1) := by decide +kernel
theorem dX3_giveOneUnit_4 : decode cX3_giveOneUnit 4 = .ok (.iload_n 3, 1) := by decide +kernel
theorem dX3_giveOneUnit_5 : decode cX3_giveOneUnit 5 = .ok (.iload_n 1, 1) := by decide +kernel
theorem dX3_giveOneUnit_6 : decode cX3_giveOneUnit 6 = .ok (.if_icmp .ge 46, 3) := by decide +kernel
theorem dX3_giveOneUnit_9 : decode cX3_giveOneUnit 9 = .ok (.iload_n 3, 1) := by decide +kernel
theorem dX3_giveOneUnit_10 : decode cX3_giveOneUnit 10 = .ok (.bipush 6, 2) := by decide +kernel
theorem dX3_giveOneUnit_12 : decode cX3_giveOneUnit 12 = .ok (.if_icmp .ge 40, 3) := by decide +kernel
theorem dX3_giveOneUnit_15 : decode cX3_giveOneUnit 15 = .ok (.aload_n 0, 1) := by decide +kernel
theorem dX3_giveOneUnit_16 : decode cX3_giveOneUnit 16 = .ok (.getfield 18, 3) := by decide +kernel
theorem dX3_giveOneUnit_19 : decode cX3_giveOneUnit 19 = .ok (.iload_n 3, 1) := by decide +kernel
theorem dX3_giveOneUnit_20 : decode cX3_giveOneUnit 20 = .ok (.baload, 1) := by decide +kernel
theorem dX3_giveOneUnit_21 : decode cX3_giveOneUnit 21 = .ok (.ifCond .ne 25, 3) := by decide +kernel
theorem dX3_giveOneUnit_24 : decode cX3_giveOneUnit 24 = .ok (.iload_n 2, 1) := by decide +kernel
theorem dX3_giveOneUnit_25 : decode cX3_giveOneUnit 25 = .ok (.iconst (-1), 1) := by decide +kernel
theorem dX3_giveOneUnit_26 : decode cX3_giveOneUnit 26 = .ok (.if_icmp .eq 18, 3) := by decide +kernel
theorem dX3_giveOneUnit_29 : decode cX3_giveOneUnit 29 = .ok (.aload_n 0, 1) := by decide +kernel
theorem dX3_giveOneUnit_30 : decode cX3_giveOneUnit 30 = .ok (.getfield 15, 3) := by decide +kernel
theorem dX3_giveOneUnit_33 : decode cX3_giveOneUnit 33 = .ok (.iload_n 3, 1) := by decide +kernel
theorem dX3_giveOneUnit_34 : decode cX3_giveOneUnit 34 = .ok (.iaload, 1) := by decide +kernel
theorem dX3_giveOneUnit_35 : decode cX3_giveOneUnit 35 = .ok (.aload_n 0, 1) := by decide +kernel
theorem dX3_giveOneUnit_36 : decode cX3_giveOneUnit 36 = .ok (.getfield 15, 3) := by decide +kernel
theorem dX3_giveOneUnit_39 : decode cX3_giveOneUnit 39 = .ok (.iload_n 2, 1) := by decide +kernel
theorem dX3_giveOneUnit_40 : decode cX3_giveOneUnit 40 = .ok (.iaload, 1) := by decide +kernel
theorem dX3_giveOneUnit_41 : decode cX3_giveOneUnit 41 = .ok (.if_icmp .le 5, 3) := by decide +kernel
theorem dX3_giveOneUnit_44 : decode cX3_giveOneUnit 44 = .ok (.iload_n 3, 1) := by decide +kernel
theorem dX3_giveOneUnit_45 : decode cX3_giveOneUnit 45 = .ok (.istore_n 2, 1) := by decide +kernel
theorem dX3_giveOneUnit_46 : decode cX3_giveOneUnit 46 = .ok (.iinc 3 1, 3) := by decide +kernel
theorem dX3_giveOneUnit_49 : decode cX3_giveOneUnit 49 = .ok (.goto (-45), 3) := by decide +kernel
theorem dX3_giveOneUnit_52 : decode cX3_giveOneUnit 52 = .ok (.iload_n 2, 1) := by decide +kernel
theorem dX3_giveOneUnit_53 : decode cX3_giveOneUnit 53 = .ok (.iconst (-1), 1) := by decide +kernel
theorem dX3_giveOneUnit_54 : decode cX3_giveOneUnit 54 = .ok (.if_icmp .eq 20, 3) := by decide +kernel
theorem dX3_giveOneUnit_57 : decode cX3_giveOneUnit 57 = .ok (.aload_n 0, 1) := by decide +kernel
theorem dX3_giveOneUnit_58 : decode cX3_giveOneUnit 58 = .ok (.getfield 18, 3) := by decide +kernel
theorem dX3_giveOneUnit_61 : decode cX3_giveOneUnit 61 = .ok (.iload_n 2, 1) := by decide +kernel
theorem dX3_giveOneUnit_62 : decode cX3_giveOneUnit 62 = .ok (.iconst 1, 1) := by decide +kernel
theorem dX3_giveOneUnit_63 : decode cX3_giveOneUnit 63 = .ok (.bastore, 1) := by decide +kernel
theorem dX3_giveOneUnit_64 : decode cX3_giveOneUnit 64 = .ok (.aload_n 0, 1) := by decide +kernel
theorem dX3_giveOneUnit_65 : decode cX3_giveOneUnit 65 = .ok (.getfield 9, 3) := by decide +kernel
theorem dX3_giveOneUnit_68 : decode cX3_giveOneUnit 68 = .ok (.iload_n 2, 1) := by decide +kernel
theorem dX3_giveOneUnit_69 : decode cX3_giveOneUnit 69 = .ok (.dup2, 1) := by decide +kernel
theorem dX3_giveOneUnit_70 : decode cX3_giveOneUnit 70 = .ok (.iaload, 1) := by decide +kernel
theorem dX3_giveOneUnit_71 : decode cX3_giveOneUnit 71 = .ok (.iconst 1, 1) := by decide +kernel
theorem dX3_giveOneUnit_72 : decode cX3_giveOneUnit 72 = .ok (.iadd, 1) := by decide +kernel
theorem dX3_giveOneUnit_73 : decode cX3_giveOneUnit 73 = .ok (.iastore, 1) := by decide +kernel
theorem dX3_giveOneUnit_74 : decode cX3_giveOneUnit 74 = .ok (.return_, 1) := by decide +kernel
theorem dX3_rankOf_0 : decode cX3_rankOf 0 = .ok (.iconst 0, 1) := by decide +kernel
theorem dX3_rankOf_1 : decode cX3_rankOf 1 = .ok (.istore_n 3, 1) := by decide +kernel
theorem dX3_rankOf_2 : decode cX3_rankOf 2 = .ok (.iconst 0, 1) := by decide +kernel
theorem dX3_rankOf_3 : decode cX3_rankOf 3 = .ok (.istore 4, 2) := by decide +kernel
theorem dX3_rankOf_5 : decode cX3_rankOf 5 = .ok (.iload 4, 2) := by decide +kernel
theorem dX3_rankOf_7 : decode cX3_rankOf 7 = .ok (.iload_n 2, 1) := by decide +kernel
theorem dX3_rankOf_8 : decode cX3_rankOf 8 = .ok (.if_icmp .ge 57, 3) := by decide +kernel
theorem dX3_rankOf_11 : decode cX3_rankOf 11 = .ok (.iload 4, 2) := by decide +kernel
theorem dX3_rankOf_13 : decode cX3_rankOf 13 = .ok (.bipush 6, 2) := by decide +kernel
theorem dX3_rankOf_15 : decode cX3_rankOf 15 = .ok (.if_icmp .ge 50, 3) := by decide +kernel
theorem dX3_rankOf_18 : decode cX3_rankOf 18 = .ok (.aload_n 0, 1) := by decide +kernel
theorem dX3_rankOf_19 : decode cX3_rankOf 19 = .ok (.getfield 15, 3) := by decide +kernel
theorem dX3_rankOf_22 : decode cX3_rankOf 22 = .ok (.iload 4, 2) := by decide +kernel
theorem dX3_rankOf_24 : decode cX3_rankOf 24 = .ok (.iaload, 1) := by decide +kernel
theorem dX3_rankOf_25 : decode cX3_rankOf 25 = .ok (.aload_n 0, 1) := by decide +kernel
theorem dX3_rankOf_26 : decode cX3_rankOf 26 = .ok (.getfield 15, 3) := by decide +kernel
theorem dX3_rankOf_29 : decode cX3_rankOf 29 = .ok (.iload_n 1, 1) := by decide +kernel
theorem dX3_rankOf_30 : decode cX3_rankOf 30 = .ok (.iaload, 1) := by decide +kernel
theorem dX3_rankOf_31 : decode cX3_rankOf 31 = .ok (.if_icmp .gt 25, 3) := by decide +kernel
theorem dX3_rankOf_34 : decode cX3_rankOf 34 = .ok (.aload_n 0, 1) := by decide +kernel
theorem dX3_rankOf_35 : decode cX3_rankOf 35 = .ok (.getfield 15, 3) := by decide +kernel
theorem dX3_rankOf_38 : decode cX3_rankOf 38 = .ok (.iload 4, 2) := by decide +kernel
theorem dX3_rankOf_40 : decode cX3_rankOf 40 = .ok (.iaload, 1) := by decide +kernel
theorem dX3_rankOf_41 : decode cX3_rankOf 41 = .ok (.aload_n 0, 1) := by decide +kernel
theorem dX3_rankOf_42 : decode cX3_rankOf 42 = .ok (.getfield 15, 3) := by decide +kernel
theorem dX3_rankOf_45 : decode cX3_rankOf 45 = .ok (.iload_n 1, 1) := by decide +kernel
theorem dX3_rankOf_46 : decode cX3_rankOf 46 = .ok (.iaload, 1) := by decide +kernel
theorem dX3_rankOf_47 : decode cX3_rankOf 47 = .ok (.if_icmp .ne 12, 3) := by decide +kernel
theorem dX3_rankOf_50 : decode cX3_rankOf 50 = .ok (.iload 4, 2) := by decide +kernel
theorem dX3_rankOf_52 : decode cX3_rankOf 52 = .ok (.iload_n 1, 1) := by decide +kernel
theorem dX3_rankOf_53 : decode cX3_rankOf 53 = .ok (.if_icmp .ge 6, 3) := by decide +kernel
theorem dX3_rankOf_56 : decode cX3_rankOf 56 = .ok (.iinc 3 1, 3) := by decide +kernel
theorem dX3_rankOf_59 : decode cX3_rankOf 59 = .ok (.iinc 4 1, 3) := by decide +kernel
theorem dX3_rankOf_62 : decode cX3_rankOf 62 = .ok (.goto (-57), 3) := by decide +kernel
theorem dX3_rankOf_65 : decode cX3_rankOf 65 = .ok (.iload_n 3, 1) := by decide +kernel
theorem dX3_rankOf_66 : decode cX3_rankOf 66 = .ok (.ireturn, 1) := by decide +kernel
theorem dX4_init_0 : decode cX4_init 0 = .ok (.aload_n 0, 1) := by decide +kernel
theorem dX4_init_1 : decode cX4_init 1 = .ok (.invokespecial 3, 3) := by decide +kernel
theorem dX4_init_4 : decode cX4_init 4 = .ok (.aload_n 0, 1) := by decide +kernel
theorem dX4_init_5 : decode cX4_init 5 = .ok (.bipush 25, 2) := by decide +kernel
theorem dX4_init_7 : decode cX4_init 7 = .ok (.newarray .int, 2) := by decide +kernel
theorem dX4_init_9 : decode cX4_init 9 = .ok (.putfield 9, 3) := by decide +kernel
theorem dX4_init_12 : decode cX4_init 12 = .ok (.return_, 1) := by decide +kernel
theorem dX4_hoursByPassing_0 : decode cX4_hoursByPassing 0 = .ok (.aload_n 1, 1) := by decide +kernel
theorem dX4_hoursByPassing_1 : decode cX4_hoursByPassing 1 = .ok (.getfield 15, 3) := by decide +kernel
theorem dX4_hoursByPassing_4 : decode cX4_hoursByPassing 4 = .ok (.istore_n 2, 1) := by decide +kernel
theorem dX4_hoursByPassing_5 : decode cX4_hoursByPassing 5 = .ok (.iconst 0, 1) := by decide +kernel
theorem dX4_hoursByPassing_6 : decode cX4_hoursByPassing 6 = .ok (.istore_n 3, 1) := by decide +kernel
theorem dX4_hoursByPassing_7 : decode cX4_hoursByPassing 7 = .ok (.iload_n 3, 1) := by decide +kernel
theorem dX4_hoursByPassing_8 : decode cX4_hoursByPassing 8 = .ok (.sipush 500, 3) := by decide +kernel
theorem dX4_hoursByPassing_11 : decode cX4_hoursByPassing 11 = .ok (.if_icmp .gt 44, 3) := by decide +kernel
theorem dX4_hoursByPassing_14 : decode cX4_hoursByPassing 14 = .ok (.aload_n 1, 1) := by decide +kernel
theorem dX4_hoursByPassing_15 : decode cX4_hoursByPassing 15 = .ok (.getfield 21, 3) := by decide +kernel
theorem dX4_hoursByPassing_18 : decode cX4_hoursByPassing 18 = .ok (.aload_n 1, 1) := by decide +kernel
theorem dX4_hoursByPassing_19 : decode cX4_hoursByPassing 19 = .ok (.getfield 25, 3) := by decide +kernel
theorem dX4_hoursByPassing_22 : decode cX4_hoursByPassing 22 = .ok (.iload_n 3, 1) := by decide +kernel
theorem dX4_hoursByPassing_23 : decode cX4_hoursByPassing 23 = .ok (.iadd, 1) := by decide +kernel
theorem dX4_hoursByPassing_24 : decode cX4_hoursByPassing 24 = .ok (.invokevirtual 28, 3) := by decide +kernel
theorem dX4_hoursByPassing_27 : decode cX4_hoursByPassing 27 = .ok (.istore 4, 2) := by decide +kernel
theorem dX4_hoursByPassing_29 : decode cX4_hoursByPassing 29 = .ok (.iload 4, 2) := by decide +kernel
theorem dX4_hoursByPassing_31 : decode cX4_hoursByPassing 31 = .ok (.ifCond .ne 5, 3) := by decide +kernel
theorem dX4_hoursByPassing_34 : decode cX4_hoursByPassing 34 = .ok (.iconst (-1), 1) := by decide +kernel
theorem dX4_hoursByPassing_35 : decode cX4_hoursByPassing 35 = .ok (.ireturn, 1) := by decide +kernel
theorem dX4_hoursByPassing_36 : decode cX4_hoursByPassing 36 = .ok (.iload 4, 2) := by decide +kernel
theorem dX4_hoursByPassing_38 : decode cX4_hoursByPassing 38 = .ok (.iload_n 2, 1) := by decide +kernel
theorem dX4_hoursByPassing_39 : decode cX4_hoursByPassing 39 = .ok (.if_icmp .le 5, 3) := by decide +kernel
theorem dX4_hoursByPassing_42 : decode cX4_hoursByPassing 42 = .ok (.iload_n 3, 1) := by decide +kernel
theorem dX4_hoursByPassing_43 : decode cX4_hoursByPassing 43 = .ok (.ireturn, 1) := by decide +kernel
theorem dX4_hoursByPassing_44 : decode cX4_hoursByPassing 44 = .ok (.iload_n 2, 1) := by decide +kernel
theorem dX4_hoursByPassing_45 : decode cX4_hoursByPassing 45 = .ok (.iload 4, 2) := by decide +kernel
theorem dX4_hoursByPassing_47 : decode cX4_hoursByPassing 47 = .ok (.isub, 1) := by decide +kernel
theorem dX4_hoursByPassing_48 : decode cX4_hoursByPassing 48 = .ok (.istore_n 2, 1) := by decide +kernel
theorem dX4_hoursByPassing_49 : decode cX4_hoursByPassing 49 = .ok (.iinc 3 1, 3) := by decide +kernel
theorem dX4_hoursByPassing_52 : decode cX4_hoursByPassing 52 = .ok (.goto (-45), 3) := by decide +kernel
theorem dX4_hoursByPassing_55 : decode cX4_hoursByPassing 55 = .ok (.iconst (-1), 1) := by decide +kernel
theorem dX4_hoursByPassing_56 : decode cX4_hoursByPassing 56 = .ok (.ireturn, 1) := by decide +kernel
theorem dX4_hoursByEndHours_0 : decode cX4_hoursByEndHours 0 = .ok (.aload_n 1, 1) := by decide +kernel
theorem dX4_hoursByEndHours_1 : decode cX4_hoursByEndHours 1 = .ok (.getfield 15, 3) := by decide +kernel
theorem dX4_hoursByEndHours_4 : decode cX4_hoursByEndHours 4 = .ok (.istore_n 2, 1) := by decide +kernel
theorem dX4_hoursByEndHours_5 : decode cX4_hoursByEndHours 5 = .ok (.aload_n 1, 1) := by decide +kernel
theorem dX4_hoursByEndHours_6 : decode cX4_hoursByEndHours 6 = .ok (.getfield 25, 3) := by decide +kernel
theorem dX4_hoursByEndHours_9 : decode cX4_hoursByEndHours 9 = .ok (.istore_n 3, 1) := by decide +kernel
theorem dX4_hoursByEndHours_10 : decode cX4_hoursByEndHours 10 = .ok (.iconst 0, 1) := by decide +kernel
theorem dX4_hoursByEndHours_11 : decode cX4_hoursByEndHours 11 = .ok (.istore 4, 2) := by decide +kernel
theorem dX4_hoursByEndHours_13 : decode cX4_hoursByEndHours 13 = .ok (.iload 4, 2) := by decide +kernel
theorem dX4_hoursByEndHours_15 : decode cX4_hoursByEndHours 15 = .ok (.bipush 8, 2) := by decide +kernel
theorem dX4_hoursByEndHours_17 : decode cX4_hoursByEndHours 17 = .ok (.if_icmp .ge 78, 3) := by decide +kernel
theorem dX4_hoursByEndHours_20 : decode cX4_hoursByEndHours 20 = .ok (.aload_n 1, 1) := by decide +kernel
theorem dX4_hoursByEndHours_21 : decode cX4_hoursByEndHours 21 = .ok (.getfield 21, 3) := by decide +kernel
theorem dX4_hoursByEndHours_24 : decode cX4_hoursByEndHours 24 = .ok (.iload_n 3, 1) := by decide +kernel
theorem dX4_hoursByEndHours_25 : decode cX4_hoursByEndHours 25 = .ok (.invokevirtual 34, 3) := by decide +kernel
theorem dX4_hoursByEndHours_28 : decode cX4_hoursByEndHours 28 = .ok (.istore 5, 2) := by decide +kernel
theorem dX4_hoursByEndHours_30 : decode cX4_hoursByEndHours 30 = .ok (.aload_n 1, 1) := by decide +kernel
theorem dX4_hoursByEndHours_31 : decode cX4_hoursByEndHours 31 = .ok (.getfield 21, 3) := by decide +kernel
theorem dX4_hoursByEndHours_34 : decode cX4_hoursByEndHours 34 = .ok (.iload_n 3, 1) := by decide +kernel
theorem dX4_hoursByEndHours_35 : decode cX4_hoursByEndHours 35 = .ok (.invokevirtual 28, 3) := by decide +kernel
theorem dX4_hoursByEndHours_38 : decode cX4_hoursByEndHours 38 = .ok (.istore 6, 2) := by decide +kernel
theorem dX4_hoursByEndHours_40 : decode cX4_hoursByEndHours 40 = .ok (.iload 5, 2) := by decide +kernel
theorem dX4_hoursByEndHours_42 : decode cX4_hoursByEndHours 42 = .ok (.iconst (-1), 1) := by decide +kernel
theorem dX4_hoursByEndHours_43 : decode cX4_hoursByEndHours 43 = .ok (.if_icmp .eq 8, 3) := by decide +kernel
theorem dX4_hoursByEndHours_46 : decode cX4_hoursByEndHours 46 = .ok (.iload 6, 2) := by decide +kernel
theorem dX4_hoursByEndHours_48 : decode cX4_hoursByEndHours 48 = .ok (.ifCond .ne 5, 3) := by decide +kernel
theorem dX4_hoursByEndHours_51 : decode cX4_hoursByEndHours 51 = .ok (.iconst (-1), 1) := by decide +kernel
theorem dX4_hoursByEndHours_52 : decode cX4_hoursByEndHours 52 = .ok (.ireturn, 1) := by decide +kernel
theorem dX4_hoursByEndHours_53 : decode cX4_hoursByEndHours 53 = .ok (.iload 6, 2) := by decide +kernel
theorem dX4_hoursByEndHours_55 : decode cX4_hoursByEndHours 55 = .ok (.iload 5, 2) := by decide +kernel
theorem dX4_hoursByEndHours_57 : decode cX4_hoursByEndHours 57 = .ok (.iload_n 3, 1) := by decide +kernel
theorem dX4_hoursByEndHours_58 : decode cX4_hoursByEndHours 58 = .ok (.isub, 1) := by decide +kernel
theorem dX4_hoursByEndHours_59 : decode cX4_hoursByEndHours 59 = .ok (.imul, 1) := by decide +kernel
theorem dX4_hoursByEndHours_60 : decode cX4_hoursByEndHours 60 = .ok (.iload_n 2, 1) := by decide +kernel
theorem dX4_hoursByEndHours_61 : decode cX4_hoursByEndHours 61 = .ok (.if_icmp .le 15, 3) := by decide +kernel
theorem dX4_hoursByEndHours_64 : decode cX4_hoursByEndHours 64 = .ok (.iload_n 3, 1) := by decide +kernel
theorem dX4_hoursByEndHours_65 : decode cX4_hoursByEndHours 65 = .ok (.aload_n 1, 1) := by decide +kernel
theorem dX4_hoursByEndHours_66 : decode cX4_hoursByEndHours 66 = .ok (.getfield 25, 3) := by decide +kernel
theorem dX4_hoursByEndHours_69 : decode cX4_hoursByEndHours 69 = .ok (.isub, 1) := by decide +kernel
theorem dX4_hoursByEndHours_70 : decode cX4_hoursByEndHours 70 = .ok (.iload_n 2, 1) := by decide +kernel
theorem dX4_hoursByEndHours_71 : decode cX4_hoursByEndHours 71 = .ok (.iload 6, 2) := by decide +kernel
theorem dX4_hoursByEndHours_73 : decode cX4_hoursByEndHours 73 = .ok (.idiv, 1) := by decide +kernel
theorem dX4_hoursByEndHours_74 : decode cX4_hoursByEndHours 74 = .ok (.iadd, 1) := by decide +kernel
theorem dX4_hoursByEndHours_75 : decode cX4_hoursByEndHours 75 = .ok (.ireturn, 1) := by decide +kernel
theorem dX4_hoursByEndHours_76 : decode cX4_hoursByEndHours 76 = .ok (.iload_n 2, 1) := by decide +kernel
theorem dX4_hoursByEndHours_77 : decode cX4_hoursByEndHours 77 = .ok (.iload 6, 2) := by decide +kernel
theorem dX4_hoursByEndHours_79 : decode cX4_hoursByEndHours 79 = .ok (.iload 5, 2) := by decide +kernel
theorem dX4_hoursByEndHours_81 : decode cX4_hoursByEndHours 81 = .ok (.iload_n 3, 1) := by decide +kernel
theorem dX4_hoursByEndHours_82 : decode cX4_hoursByEndHours 82 = .ok (.isub, 1) := by decide +kernel
theorem dX4_hoursByEndHours_83 : decode cX4_hoursByEndHours 83 = .ok (.imul, 1) := by decide +kernel
theorem dX4_hoursByEndHours_84 : decode cX4_hoursByEndHours 84 = .ok (.isub, 1) := by decide +kernel
theorem dX4_hoursByEndHours_85 : decode cX4_hoursByEndHours 85 = .ok (.istore_n 2, 1) := by decide +kernel
theorem dX4_hoursByEndHours_86 : decode cX4_hoursByEndHours 86 = .ok (.iload 5, 2) := by decide +kernel
theorem dX4_hoursByEndHours_88 : decode cX4_hoursByEndHours 88 = .ok (.istore_n 3, 1) := by decide +kernel
theorem dX4_hoursByEndHours_89 : decode cX4_hoursByEndHours 89 = .ok (.iinc 4 1, 3) := by decide +kernel
theorem dX4_hoursByEndHours_92 : decode cX4_hoursByEndHours 92 = .ok (.goto (-79), 3) := by decide +kernel
theorem dX4_hoursByEndHours_95 : decode cX4_hoursByEndHours 95 = .ok (.iconst (-1), 1) := by decide +kernel
theorem dX4_hoursByEndHours_96 : decode cX4_hoursByEndHours 96 = .ok (.ireturn, 1) := by decide +kernel
theorem dX4_nextBrightLamps_0 : decode cX4_nextBrightLamps 0 = .ok (.aload_n 1, 1) := by decide +kernel
theorem dX4_nextBrightLamps_1 : decode cX4_nextBrightLamps 1 = .ok (.getfield 15, 3) := by decide +kernel
theorem dX4_nextBrightLamps_4 : decode cX4_nextBrightLamps 4 = .ok (.istore_n 2, 1) := by decide +kernel
theorem dX4_nextBrightLamps_5 : decode cX4_nextBrightLamps 5 = .ok (.iconst 0, 1) := by decide +kernel
theorem dX4_nextBrightLamps_6 : decode cX4_nextBrightLamps 6 = .ok (.istore_n 3, 1) := by decide +kernel
theorem dX4_nextBrightLamps_7 : decode cX4_nextBrightLamps 7 = .ok (.iconst 0, 1) := by decide +kernel
theorem dX4_nextBrightLamps_8 : decode cX4_nextBrightLamps 8 = .ok (.istore 4, 2) := by decide +kernel
theorem dX4_nextBrightLamps_10 : decode cX4_nextBrightLamps 10 = .ok (.iload 4, 2) := by decide +kernel
theorem dX4_nextBrightLamps_12 : decode cX4_nextBrightLamps 12 = .ok (.aload_n 1, 1) := by decide +kernel
theorem dX4_nextBrightLamps_13 : decode cX4_nextBrightLamps 13 = .ok (.getfield 21, 3) := by decide +kernel
theorem dX4_nextBrightLamps_16 : decode cX4_nextBrightLamps 16 = .ok (.getfield 37, 3) := by decide +kernel
theorem dX4_nextBrightLamps_19 : decode cX4_nextBrightLamps 19 = .ok (.if_icmp .ge 51, 3) := by decide +kernel
theorem dX4_nextBrightLamps_22 : decode cX4_nextBrightLamps 22 = .ok (.aload_n 1, 1) := by decide +kernel
theorem dX4_nextBrightLamps_23 : decode cX4_nextBrightLamps 23 = .ok (.getfield 21, 3) := by decide +kernel
theorem dX4_nextBrightLamps_26 : decode cX4_nextBrightLamps 26 = .ok (.iload 4, 2) := by decide +kernel
theorem dX4_nextBrightLamps_28 : decode cX4_nextBrightLamps 28 = .ok (.invokevirtual 40, 3) := by decide +kernel
theorem dX4_nextBrightLamps_31 : decode cX4_nextBrightLamps 31 = .ok (.ifCond .eq 33, 3) := by decide +kernel
theorem dX4_nextBrightLamps_34 : decode cX4_nextBrightLamps 34 = .ok (.aload_n 1, 1) := by decide +kernel
theorem dX4_nextBrightLamps_35 : decode cX4_nextBrightLamps 35 = .ok (.getfield 21, 3) := by decide +kernel
theorem dX4_nextBrightLamps_38 : decode cX4_nextBrightLamps 38 = .ok (.getfield 44, 3) := by decide +kernel
theorem dX4_nextBrightLamps_41 : decode cX4_nextBrightLamps 41 = .ok (.iload 4, 2) := by decide +kernel
theorem dX4_nextBrightLamps_43 : decode cX4_nextBrightLamps 43 = .ok (.iaload, 1) := by decide +kernel
theorem dX4_nextBrightLamps_44 : decode cX4_nextBrightLamps 44 = .ok (.iload_n 2, 1) := by decide +kernel
theorem dX4_nextBrightLamps_45 : decode cX4_nextBrightLamps 45 = .ok (.if_icmp .gt 19, 3) := by decide +kernel
theorem dX4_nextBrightLamps_48 : decode cX4_nextBrightLamps 48 = .ok (.iload_n 2, 1) := by decide +kernel
theorem dX4_nextBrightLamps_49 : decode cX4_nextBrightLamps 49 = .ok (.aload_n 1, 1) := by decide +kernel
theorem dX4_nextBrightLamps_50 : decode cX4_nextBrightLamps 50 = .ok (.getfield 21, 3) := by decide +kernel
theorem dX4_nextBrightLamps_53 : decode cX4_nextBrightLamps 53 = .ok (.getfield 44, 3) := by decide +kernel
theorem dX4_nextBrightLamps_56 : decode cX4_nextBrightLamps 56 = .ok (.iload 4, 2) := by decide +kernel
theorem dX4_nextBrightLamps_58 : decode cX4_nextBrightLamps 58 = .ok (.iaload, 1) := by decide +kernel
theorem dX4_nextBrightLamps_59 : decode cX4_nextBrightLamps 59 = .ok (.isub, 1) := by decide +kernel
theorem dX4_nextBrightLamps_60 : decode cX4_nextBrightLamps 60 = .ok (.istore_n 2, 1) := by decide +kernel
theorem dX4_nextBrightLamps_61 : decode cX4_nextBrightLamps 61 = .ok (.iinc 3 1, 3) := by decide +kernel
theorem dX4_nextBrightLamps_64 : decode cX4_nextBrightLamps 64 = .ok (.iinc 4 1, 3) := by decide +kernel
theorem dX4_nextBrightLamps_67 : decode cX4_nextBrightLamps 67 = .ok (.goto (-57), 3) := by decide +kernel
theorem dX4_nextBrightLamps_70 : decode cX4_nextBrightLamps 70 = .ok (.iload_n 3, 1) := by decide +kernel
theorem dX4_nextBrightLamps_71 : decode cX4_nextBrightLamps 71 = .ok (.ireturn, 1) := by decide +kernel
theorem dX4_mostLampsByLevels_0 : decode cX4_mostLampsByLevels 0 = .ok (.aload_n 1, 1) := by decide +kernel
theorem dX4_mostLampsByLevels_1 : decode cX4_mostLampsByLevels 1 = .ok (.getfield 15, 3) := by decide +kernel
theorem dX4_mostLampsByLevels_4 : decode cX4_mostLampsByLevels 4 = .ok (.istore_n 2, 1) := by decide +kernel
theorem dX4_mostLampsByLevels_5 : decode cX4_mostLampsByLevels 5 = .ok (.iconst 0, 1) := by decide +kernel
theorem dX4_mostLampsByLevels_6 : decode cX4_mostLampsByLevels 6 = .ok (.istore_n 3, 1) := by decide +kernel
theorem dX4_mostLampsByLevels_7 : decode cX4_mostLampsByLevels 7 = .ok (.iconst 1, 1) := by decide +kernel
theorem dX4_mostLampsByLevels_8 : decode cX4_mostLampsByLevels 8 = .ok (.istore 4, 2) := by decide +kernel
theorem dX4_mostLampsByLevels_10 : decode cX4_mostLampsByLevels 10 = .ok (.iload 4, 2) := by decide +kernel
theorem dX4_mostLampsByLevels_12 : decode cX4_mostLampsByLevels 12 = .ok (.iconst 3, 1) := by decide +kernel
theorem dX4_mostLampsByLevels_13 : decode cX4_mostLampsByLevels 13 = .ok (.if_icmp .gt 71, 3) := by decide +kernel
theorem dX4_mostLampsByLevels_16 : decode cX4_mostLampsByLevels 16 = .ok (.iconst 0, 1) := by decide +kernel
theorem dX4_mostLampsByLevels_17 : decode cX4_mostLampsByLevels 17 = .ok (.istore 5, 2) := by decide +kernel
theorem dX4_mostLampsByLevels_19 : decode cX4_mostLampsByLevels 19 = .ok (.iload 5, 2) := by decide +kernel
theorem dX4_mostLampsByLevels_21 : decode cX4_mostLampsByLevels 21 = .ok (.aload_n 1, 1) := by decide +kernel
theorem dX4_mostLampsByLevels_22 : decode cX4_mostLampsByLevels 22 = .ok (.getfield 21, 3) := by decide +kernel
theorem dX4_mostLampsByLevels_25 : decode cX4_mostLampsByLevels 25 = .ok (.getfield 37, 3) := by decide +kernel
theorem dX4_mostLampsByLevels_28 : decode cX4_mostLampsByLevels 28 = .ok (.if_icmp .ge 50, 3) := by decide +kernel
theorem dX4_mostLampsByLevels_31 : decode cX4_mostLampsByLevels 31 = .ok (.aload_n 1, 1) := by decide +kernel
theorem dX4_mostLampsByLevels_32 : decode cX4_mostLampsByLevels 32 = .ok (.getfield 21, 3) := by decide +kernel
theorem dX4_mostLampsByLevels_35 : decode cX4_mostLampsByLevels 35 = .ok (.iload 5, 2) := by decide +kernel
theorem dX4_mostLampsByLevels_37 : decode cX4_mostLampsByLevels 37 = .ok (.invokevirtual 40, 3) := by decide +kernel
theorem dX4_mostLampsByLevels_40 : decode cX4_mostLampsByLevels 40 = .ok (.ifCond .eq 32, 3) := by decide +kernel
theorem dX4_mostLampsByLevels_43 : decode cX4_mostLampsByLevels 43 = .ok (.aload_n 1, 1) := by decide +kernel
theorem dX4_mostLampsByLevels_44 : decode cX4_mostLampsByLevels 44 = .ok (.getfield 21, 3) := by decide +kernel
theorem dX4_mostLampsByLevels_47 : decode cX4_mostLampsByLevels 47 = .ok (.getfield 44, 3) := by decide +kernel
theorem dX4_mostLampsByLevels_50 : decode cX4_mostLampsByLevels 50 = .ok (.iload 5, 2) := by decide +kernel
theorem dX4_mostLampsByLevels_52 : decode cX4_mostLampsByLevels 52 = .ok (.iaload, 1) := by decide +kernel
theorem dX4_mostLampsByLevels_53 : decode cX4_mostLampsByLevels 53 = .ok (.iload 4, 2) := by decide +kernel
theorem dX4_mostLampsByLevels_55 : decode cX4_mostLampsByLevels 55 = .ok (.if_icmp .ne 17, 3) := by decide +kernel
theorem dX4_mostLampsByLevels_58 : decode cX4_mostLampsByLevels 58 = .ok (.iload 4, 2) := by decide +kernel
theorem dX4_mostLampsByLevels_60 : decode cX4_mostLampsByLevels 60 = .ok (.iload_n 2, 1) := by decide +kernel
theorem dX4_mostLampsByLevels_61 : decode cX4_mostLampsByLevels 61 = .ok (.if_icmp .gt 11, 3) := by decide +kernel
theorem dX4_mostLampsByLevels_64 : decode cX4_mostLampsByLevels 64 = .ok (.iload_n 2, 1) := by decide +kernel
theorem dX4_mostLampsByLevels_65 : decode cX4_mostLampsByLevels 65 = .ok (.iload 4, 2) := by decide +kernel
theorem dX4_mostLampsByLevels_67 : decode cX4_mostLampsByLevels 67 = .ok (.isub, 1) := by decide +kernel
theorem dX4_mostLampsByLevels_68 : decode cX4_mostLampsByLevels 68 = .ok (.istore_n 2, 1) := by decide +kernel
theorem dX4_mostLampsByLevels_69 : decode cX4_mostLampsByLevels 69 = .ok (.iinc 3 1, 3) := by decide +kernel
theorem dX4_mostLampsByLevels_72 : decode cX4_mostLampsByLevels 72 = .ok (.iinc 5 1, 3) := by decide +kernel
theorem dX4_mostLampsByLevels_75 : decode cX4_mostLampsByLevels 75 = .ok (.goto (-56), 3) := by decide +kernel
theorem dX4_mostLampsByLevels_78 : decode cX4_mostLampsByLevels 78 = .ok (.iinc 4 1, 3) := by decide +kernel
theorem dX4_mostLampsByLevels_81 : decode cX4_mostLampsByLevels 81 = .ok (.goto (-71), 3) := by decide +kernel
theorem dX4_mostLampsByLevels_84 : decode cX4_mostLampsByLevels 84 = .ok (.iload_n 3, 1) := by decide +kernel
theorem dX4_mostLampsByLevels_85 : decode cX4_mostLampsByLevels 85 = .ok (.ireturn, 1) := by decide +kernel
theorem dX4_mostLampsByTable_0 : decode cX4_mostLampsByTable 0 = .ok (.aload_n 0, 1) := by decide +kernel
theorem dX4_mostLampsByTable_1 : decode cX4_mostLampsByTable 1 = .ok (.invokevirtual 47, 3) := by decide +kernel
theorem dX4_mostLampsByTable_4 : decode cX4_mostLampsByTable 4 = .ok (.iconst 0, 1) := by decide +kernel
theorem dX4_mostLampsByTable_5 : decode cX4_mostLampsByTable 5 = .ok (.istore_n 2, 1) := by decide +kernel
theorem dX4_mostLampsByTable_6 : decode cX4_mostLampsByTable 6 = .ok (.iload_n 2, 1) := by decide +kernel
theorem dX4_mostLampsByTable_7 : decode cX4_mostLampsByTable 7 = .ok (.aload_n 1, 1) := by decide +kernel
theorem dX4_mostLampsByTable_8 : decode cX4_mostLampsByTable 8 = .ok (.getfield 21, 3) := by decide +kernel
theorem dX4_mostLampsByTable_11 : decode cX4_mostLampsByTable 11 = .ok (.getfield 37, 3) := by decide +kernel
theorem dX4_mostLampsByTable_14 : decode cX4_mostLampsByTable 14 = .ok (.if_icmp .ge 33, 3) := by decide +kernel
theorem dX4_mostLampsByTable_17 : decode cX4_mostLampsByTable 17 = .ok (.aload_n 1, 1) := by decide +kernel
theorem dX4_mostLampsByTable_18 : decode cX4_mostLampsByTable 18 = .ok (.getfield 21, 3) := by decide +kernel
theorem dX4_mostLampsByTable_21 : decode cX4_mostLampsByTable 21 = .ok (.iload_n 2, 1) := by decide +kernel
theorem dX4_mostLampsByTable_22 : decode cX4_mostLampsByTable 22 = .ok (.invokevirtual 40, 3) := by decide +kernel
theorem dX4_mostLampsByTable_25 : decode cX4_mostLampsByTable 25 = .ok (.ifCond .eq 16, 3) := by decide +kernel
theorem dX4_mostLampsByTable_28 : decode cX4_mostLampsByTable 28 = .ok (.aload_n 0, 1) := by decide +kernel
theorem dX4_mostLampsByTable_29 : decode cX4_mostLampsByTable 29 = .ok (.aload_n 1, 1) := by decide +kernel
theorem dX4_mostLampsByTable_30 : decode cX4_mostLampsByTable 30 = .ok (.getfield 21, 3) := by decide +kernel
theorem dX4_mostLampsByTable_33 : decode cX4_mostLampsByTable 33 = .ok (.getfield 44, 3) := by decide +kernel
theorem dX4_mostLampsByTable_36 : decode cX4_mostLampsByTable 36 = .ok (.iload_n 2, 1) := by decide +kernel
theorem dX4_mostLampsByTable_37 : decode cX4_mostLampsByTable 37 = .ok (.iaload, 1) := by decide +kernel
theorem dX4_mostLampsByTable_38 : decode cX4_mostLampsByTable 38 = .ok (.invokevirtual 50, 3) := by decide +kernel
theorem dX4_mostLampsByTable_41 : decode cX4_mostLampsByTable 41 = .ok (.iinc 2 1, 3) := by decide +kernel
theorem dX4_mostLampsByTable_44 : decode cX4_mostLampsByTable 44 = .ok (.goto (-38), 3) := by decide +kernel
theorem dX4_mostLampsByTable_47 : decode cX4_mostLampsByTable 47 = .ok (.iconst 0, 1) := by decide +kernel
theorem dX4_mostLampsByTable_48 : decode cX4_mostLampsByTable 48 = .ok (.istore_n 2, 1) := by decide +kernel
theorem dX4_mostLampsByTable_49 : decode cX4_mostLampsByTable 49 = .ok (.iconst 0, 1) := by decide +kernel
theorem dX4_mostLampsByTable_50 : decode cX4_mostLampsByTable 50 = .ok (.istore_n 3, 1) := by decide +kernel
theorem dX4_mostLampsByTable_51 : decode cX4_mostLampsByTable 51 = .ok (.iload_n 3, 1) := by decide +kernel
theorem dX4_mostLampsByTable_52 : decode cX4_mostLampsByTable 52 = .ok (.aload_n 0, 1) := by decide +kernel
theorem dX4_mostLampsByTable_53 : decode cX4_mostLampsByTable 53 = .ok (.getfield 9, 3) := by decide +kernel
theorem dX4_mostLampsByTable_56 : decode cX4_mostLampsByTable 56 = .ok (.arraylength, 1) := by decide +kernel
theorem dX4_mostLampsByTable_57 : decode cX4_mostLampsByTable 57 = .ok (.if_icmp .ge 28, 3) := by decide +kernel
theorem dX4_mostLampsByTable_60 : decode cX4_mostLampsByTable 60 = .ok (.iload_n 3, 1) := by decide +kernel
theorem dX4_mostLampsByTable_61 : decode cX4_mostLampsByTable 61 = .ok (.aload_n 1, 1) := by decide +kernel
theorem dX4_mostLampsByTable_62 : decode cX4_mostLampsByTable 62 = .ok (.getfield 15, 3) := by decide +kernel
theorem dX4_mostLampsByTable_65 : decode cX4_mostLampsByTable 65 = .ok (.if_icmp .gt 20, 3) := by decide +kernel
theorem dX4_mostLampsByTable_68 : decode cX4_mostLampsByTable 68 = .ok (.iload_n 2, 1) := by decide +kernel
theorem dX4_mostLampsByTable_69 : decode cX4_mostLampsByTable 69 = .ok (.aload_n 0, 1) := by decide +kernel
theorem dX4_mostLampsByTable_70 : decode cX4_mostLampsByTable 70 = .ok (.getfield 9, 3) := by decide +kernel
theorem dX4_mostLampsByTable_73 : decode cX4_mostLampsByTable 73 = .ok (.iload_n 3, 1) := by decide +kernel
theorem dX4_mostLampsByTable_74 : decode cX4_mostLampsByTable 74 = .ok (.iaload, 1) := by decide +kernel
theorem dX4_mostLampsByTable_75 : decode cX4_mostLampsByTable 75 = .ok (.invokestatic 54, 3) := by decide +kernel
theorem dX4_mostLampsByTable_78 : decode cX4_mostLampsByTable 78 = .ok (.istore_n 2, 1) := by decide +kernel
theorem dX4_mostLampsByTable_79 : decode cX4_mostLampsByTable 79 = .ok (.iinc 3 1, 3) := by decide +kernel
theorem dX4_mostLampsByTable_82 : decode cX4_mostLampsByTable 82 = .ok (.goto (-31), 3) := by decide +kernel
theorem dX4_mostLampsByTable_85 : decode cX4_mostLampsByTable 85 = .ok (.iload_n 2, 1) := by decide +kernel
theorem dX4_mostLampsByTable_86 : decode cX4_mostLampsByTable 86 = .ok (.ireturn, 1) := by decide +kernel
theorem dX4_clearTable_0 : decode cX4_clearTable 0 = .ok (.aload_n 0, 1) := by decide +kernel
theorem dX4_clearTable_1 : decode cX4_clearTable 1 = .ok (.getfield 9, 3) := by decide +kernel
theorem dX4_clearTable_4 : decode cX4_clearTable 4 = .ok (.iconst 0, 1) := by decide +kernel
theorem dX4_clearTable_5 : decode cX4_clearTable 5 = .ok (.iconst 0, 1) := by decide +kernel
theorem dX4_clearTable_6 : decode cX4_clearTable 6 = .ok (.iastore, 1) := by decide +kernel
theorem dX4_clearTable_7 : decode cX4_clearTable 7 = .ok (.iconst 1, 1) := by decide +kernel
theorem dX4_clearTable_8 : decode cX4_clearTable 8 = .ok (.istore_n 1, 1) := by decide +kernel
theorem dX4_clearTable_9 : decode cX4_clearTable 9 = .ok (.iload_n 1, 1) := by decide +kernel
theorem dX4_clearTable_10 : decode cX4_clearTable 10 = .ok (.aload_n 0, 1) := by decide +kernel
theorem dX4_clearTable_11 : decode cX4_clearTable 11 = .ok (.getfield 9, 3) := by decide +kernel
theorem dX4_clearTable_14 : decode cX4_clearTable 14 = .ok (.arraylength, 1) := by decide +kernel
theorem dX4_clearTable_15 : decode cX4_clearTable 15 = .ok (.if_icmp .ge 16, 3) := by decide +kernel
theorem dX4_clearTable_18 : decode cX4_clearTable 18 = .ok (.aload_n 0, 1) := by decide +kernel
theorem dX4_clearTable_19 : decode cX4_clearTable 19 = .ok (.getfield 9, 3) := by decide +kernel
theorem dX4_clearTable_22 : decode cX4_clearTable 22 = .ok (.iload_n 1, 1) := by decide +kernel
theorem dX4_clearTable_23 : decode cX4_clearTable 23 = .ok (.iconst (-1), 1) := by decide +kernel
theorem dX4_clearTable_24 : decode cX4_clearTable 24 = .ok (.iastore, 1) := by decide +kernel
theorem dX4_clearTable_25 : decode cX4_clearTable 25 = .ok (.iinc 1 1, 3) := by decide +kernel
theorem dX4_clearTable_28 : decode cX4_clearTable 28 = .ok (.goto (-19), 3) := by decide +kernel
theorem dX4_clearTable_31 : decode cX4_clearTable 31 = .ok (.return_, 1) := by decide +kernel
theorem dX4_enterInTable_0 : decode cX4_enterInTable 0 = .ok (.aload_n 0, 1) := by decide +kernel
theorem dX4_enterInTable_1 : decode cX4_enterInTable 1 = .ok (.getfield 9, 3) := by decide +kernel
theorem dX4_enterInTable_4 : decode cX4_enterInTable 4 = .ok (.arraylength, 1) := by decide +kernel
theorem dX4_enterInTable_5 : decode cX4_enterInTable 5 = .ok (.iconst 1, 1) := by decide +kernel
theorem dX4_enterInTable_6 : decode cX4_enterInTable 6 = .ok (.isub, 1) := by decide +kernel
theorem dX4_enterInTable_7 : decode cX4_enterInTable 7 = .ok (.istore_n 2, 1) := by decide +kernel
theorem dX4_enterInTable_8 : decode cX4_enterInTable 8 = .ok (.iload_n 2, 1) := by decide +kernel
theorem dX4_enterInTable_9 : decode cX4_enterInTable 9 = .ok (.iload_n 1, 1) := by decide +kernel
theorem dX4_enterInTable_10 : decode cX4_enterInTable 10 = .ok (.if_icmp .lt 55, 3) := by decide +kernel
theorem dX4_enterInTable_13 : decode cX4_enterInTable 13 = .ok (.iload_n 2, 1) := by decide +kernel
theorem dX4_enterInTable_14 : decode cX4_enterInTable 14 = .ok (.ifCond .lt 51, 3) := by decide +kernel
theorem dX4_enterInTable_17 : decode cX4_enterInTable 17 = .ok (.iload_n 2, 1) := by decide +kernel
theorem dX4_enterInTable_18 : decode cX4_enterInTable 18 = .ok (.iload_n 1, 1) := by decide +kernel
theorem dX4_enterInTable_19 : decode cX4_enterInTable 19 = .ok (.isub, 1) := by decide +kernel
theorem dX4_enterInTable_20 : decode cX4_enterInTable 20 = .ok (.istore_n 3, 1) := by decide +kernel
theorem dX4_enterInTable_21 : decode cX4_enterInTable 21 = .ok (.iload_n 3, 1) := by decide +kernel
theorem dX4_enterInTable_22 : decode cX4_enterInTable 22 = .ok (.iload_n 2, 1) := by decide +kernel
theorem dX4_enterInTable_23 : decode cX4_enterInTable 23 = .ok (.if_icmp .ge 36, 3) := by decide +kernel
theorem dX4_enterInTable_26 : decode cX4_enterInTable 26 = .ok (.aload_n 0, 1) := by decide +kernel
theorem dX4_enterInTable_27 : decode cX4_enterInTable 27 = .ok (.getfield 9, 3) := by decide +kernel
theorem dX4_enterInTable_30 : decode cX4_enterInTable 30 = .ok (.iload_n 3, 1) := by decide +kernel
theorem dX4_enterInTable_31 : decode cX4_enterInTable 31 = .ok (.iaload, 1) := by decide +kernel
theorem dX4_enterInTable_32 : decode cX4_enterInTable 32 = .ok (.iconst (-1), 1) := by decide +kernel
theorem dX4_enterInTable_33 : decode cX4_enterInTable 33 = .ok (.if_icmp .eq 26, 3) := by decide +kernel
theorem dX4_enterInTable_36 : decode cX4_enterInTable 36 = .ok (.aload_n 0, 1) := by decide +kernel
theorem dX4_enterInTable_37 : decode cX4_enterInTable 37 = .ok (.getfield 9, 3) := by decide +kernel
theorem dX4_enterInTable_40 : decode cX4_enterInTable 40 = .ok (.iload_n 2, 1) := by decide +kernel
theorem dX4_enterInTable_41 : decode cX4_enterInTable 41 = .ok (.aload_n 0, 1) := by decide +kernel
theorem dX4_enterInTable_42 : decode cX4_enterInTable 42 = .ok (.getfield 9, 3) := by decide +kernel
theorem dX4_enterInTable_45 : decode cX4_enterInTable 45 = .ok (.iload_n 2, 1) := by decide +kernel
theorem dX4_enterInTable_46 : decode cX4_enterInTable 46 = .ok (.iaload, 1) := by decide +kernel
theorem dX4_enterInTable_47 : decode cX4_enterInTable 47 = .ok (.aload_n 0, 1) := by decide +kernel
theorem dX4_enterInTable_48 : decode cX4_enterInTable 48 = .ok (.getfield 9, 3) := by decide +kernel
theorem dX4_enterInTable_51 : decode cX4_enterInTable 51 = .ok (.iload_n 3, 1) := by decide +kernel
theorem dX4_enterInTable_52 : decode cX4_enterInTable 52 = .ok (.iaload, 1) := by decide +kernel
theorem dX4_enterInTable_53 : decode cX4_enterInTable 53 = .ok (.iconst 1, 1) := by decide +kernel
theorem dX4_enterInTable_54 : decode cX4_enterInTable 54 = .ok (.iadd, 1) := by decide +kernel
theorem dX4_enterInTable_55 : decode cX4_enterInTable 55 = .ok (.invokestatic 54, 3) := by decide +kernel
theorem dX4_enterInTable_58 : decode cX4_enterInTable 58 = .ok (.iastore, 1) := by decide +kernel
theorem dX4_enterInTable_59 : decode cX4_enterInTable 59 = .ok (.iinc 2 (-1), 3) := by decide +kernel
theorem dX4_enterInTable_62 : decode cX4_enterInTable 62 = .ok (.goto (-54), 3) := by decide +kernel
theorem dX4_enterInTable_65 : decode cX4_enterInTable 65 = .ok (.return_, 1) := by decide +kernel
theorem dX5_init_0 : decode cX5_init 0 = .ok (.aload_n 0, 1) := by decide +kernel
theorem dX5_init_1 : decode cX5_init 1 = .ok (.invokespecial 3, 3) := by decide +kernel
theorem dX5_init_4 : decode cX5_init 4 = .ok (.aload_n 0, 1) := by decide +kernel
theorem dX5_init_5 : decode cX5_init 5 = .ok (.bipush 8, 2) := by decide +kernel
theorem dX5_init_7 : decode cX5_init 7 = .ok (.anewarray 9, 3) := by decide +kernel
theorem dX5_init_10 : decode cX5_init 10 = .ok (.putfield 11, 3) := by decide +kernel
theorem dX5_init_13 : decode cX5_init 13 = .ok (.iconst 0, 1) := by decide +kernel
theorem dX5_init_14 : decode cX5_init 14 = .ok (.istore_n 1, 1) := by decide +kernel
theorem dX5_init_15 : decode cX5_init 15 = .ok (.iload_n 1, 1) := by decide +kernel
theorem dX5_init_16 : decode cX5_init 16 = .ok (.bipush 8, 2) := by decide +kernel
theorem dX5_init_18 : decode cX5_init 18 = .ok (.if_icmp .ge 22, 3) := by decide +kernel
theorem dX5_init_21 : decode cX5_init 21 = .ok (.aload_n 0, 1) := by decide +kernel
theorem dX5_init_22 : decode cX5_init 22 = .ok (.getfield 11, 3) := by decide +kernel
theorem dX5_init_25 : decode cX5_init 25 = .ok (.iload_n 1, 1) := by decide +kernel
theorem dX5_init_26 : decode cX5_init 26 = .ok (.new 9, 3) := by decide +kernel
theorem dX5_init_29 : decode cX5_init 29 = .ok (.dup, 1) := by decide +kernel
theorem dX5_init_30 : decode cX5_init 30 = .ok (.invokespecial 17, 3) := by decide +kernel
theorem dX5_init_33 : decode cX5_init 33 = .ok (.aastore, 1) := by decide +kernel
theorem dX5_init_34 : decode cX5_init 34 = .ok (.iinc 1 1, 3) := by decide +kernel
theorem dX5_init_37 : decode cX5_init 37 = .ok (.goto (-22), 3) := by decide +kernel
theorem dX5_init_40 : decode cX5_init 40 = .ok (.return_, 1) := by decide +kernel
theorem dX5_push_0 : decode cX5_push 0 = .ok (.aload_n 0, 1) := by decide +kernel
theorem dX5_push_1 : decode cX5_push 1 = .ok (.getfield 11, 3) := by decide +kernel
theorem dX5_push_4 : decode cX5_push 4 = .ok (.aload_n 0, 1) := by decide +kernel
theorem dX5_push_5 : decode cX5_push 5 = .ok (.getfield 18, 3) := by decide +kernel
theorem dX5_push_8 : decode cX5_push 8 = .ok (.aload_n 0, 1) := by decide +kernel
theorem dX5_push_9 : decode cX5_push 9 = .ok (.getfield 22, 3) := by decide +kernel
theorem dX5_push_12 : decode cX5_push 12 = .ok (.iadd, 1) := by decide +kernel
theorem dX5_push_13 : decode cX5_push 13 = .ok (.bipush 8, 2) := by decide +kernel
theorem dX5_push_15 : decode cX5_push 15 = .ok (.irem, 1) := by decide +kernel
theorem dX5_push_16 : decode cX5_push 16 = .ok (.aaload, 1) := by decide +kernel
theorem dX5_push_17 : decode cX5_push 17 = .ok (.aload_n 1, 1) := by decide +kernel
theorem dX5_push_18 : decode cX5_push 18 = .ok (.invokevirtual 25, 3) := by decide +kernel
theorem dX5_push_21 : decode cX5_push 21 = .ok (.aload_n 0, 1) := by decide +kernel
theorem dX5_push_22 : decode cX5_push 22 = .ok (.getfield 22, 3) := by decide +kernel
theorem dX5_push_25 : decode cX5_push 25 = .ok (.bipush 8, 2) := by decide +kernel
theorem dX5_push_27 : decode cX5_push 27 = .ok (.if_icmp .ge 16, 3) := by decide +kernel
theorem dX5_push_30 : decode cX5_push 30 = .ok (.aload_n 0, 1) := by decide +kernel
theorem dX5_push_31 : decode cX5_push 31 = .ok (.dup, 1) := by decide +kernel
theorem dX5_push_32 : decode cX5_push 32 = .ok (.getfield 22, 3) := by decide +kernel
theorem dX5_push_35 : decode cX5_push 35 = .ok (.iconst 1, 1) := by decide +kernel
theorem dX5_push_36 : decode cX5_push 36 = .ok (.iadd, 1) := by decide +kernel
theorem dX5_push_37 : decode cX5_push 37 = .ok (.putfield 22, 3) := by decide +kernel
theorem dX5_push_40 : decode cX5_push 40 = .ok (.goto 16, 3) := by decide +kernel
theorem dX5_push_43 : decode cX5_push 43 = .ok (.aload_n 0, 1) := by decide +kernel
theorem dX5_push_44 : decode cX5_push 44 = .ok (.aload_n 0, 1) := by decide +kernel
theorem dX5_push_45 : decode cX5_push 45 = .ok (.getfield 18, 3) := by decide +kernel
theorem dX5_push_48 : decode cX5_push 48 = .ok (.iconst 1, 1) := by decide +kernel
theorem dX5_push_49 : decode cX5_push 49 = .ok (.iadd, 1) := by decide +kernel
theorem dX5_push_50 : decode cX5_push 50 = .ok (.bipush 8, 2) := by decide +kernel
theorem dX5_push_52 : decode cX5_push 52 = .ok (.irem, 1) := by decide +kernel
theorem dX5_push_53 : decode cX5_push 53 = .ok (.putfield 18, 3) := by decide +kernel
theorem dX5_push_56 : decode cX5_push 56 = .ok (.return_, 1) := by decide +kernel
theorem dX5_popInto_0 : decode cX5_popInto 0 = .ok (.aload_n 0, 1) := by decide +kernel
theorem dX5_popInto_1 : decode cX5_popInto 1 = .ok (.getfield 22, 3) := by decide +kernel
theorem dX5_popInto_4 : decode cX5_popInto 4 = .ok (.ifCond .le 34, 3) := by decide +kernel
theorem dX5_popInto_7 : decode cX5_popInto 7 = .ok (.aload_n 0, 1) := by decide +kernel
theorem dX5_popInto_8 : decode cX5_popInto 8 = .ok (.dup, 1) := by decide +kernel
theorem dX5_popInto_9 : decode cX5_popInto 9 = .ok (.getfield 22, 3) := by decide +kernel
theorem dX5_popInto_12 : decode cX5_popInto 12 = .ok (.iconst 1, 1) := by decide +kernel
theorem dX5_popInto_13 : decode cX5_popInto 13 = .ok (.isub, 1) := by decide +kernel
theorem dX5_popInto_14 : decode cX5_popInto 14 = .ok (.putfield 22, 3) := by decide +kernel
theorem dX5_popInto_17 : decode cX5_popInto 17 = .ok (.aload_n 1, 1) := by decide +kernel
theorem dX5_popInto_18 : decode cX5_popInto 18 = .ok (.aload_n 0, 1) := by decide +kernel
theorem dX5_popInto_19 : decode cX5_popInto 19 = .ok (.getfield 11, 3) := by decide +kernel
theorem dX5_popInto_22 : decode cX5_popInto 22 = .ok (.aload_n 0, 1) := by decide +kernel
theorem dX5_popInto_23 : decode cX5_popInto 23 = .ok (.getfield 18, 3) := by decide +kernel
theorem dX5_popInto_26 : decode cX5_popInto 26 = .ok (.aload_n 0, 1) := by decide +kernel
theorem dX5_popInto_27 : decode cX5_popInto 27 = .ok (.getfield 22, 3) := by decide +kernel
theorem dX5_popInto_30 : decode cX5_popInto 30 = .ok (.iadd, 1) := by decide +kernel
theorem dX5_popInto_31 : decode cX5_popInto 31 = .ok (.bipush 8, 2) := by decide +kernel
theorem dX5_popInto_33 : decode cX5_popInto 33 = .ok (.irem, 1) := by decide +kernel
theorem dX5_popInto_34 : decode cX5_popInto 34 = .ok (.aaload, 1) := by decide +kernel
theorem dX5_popInto_35 : decode cX5_popInto 35 = .ok (.invokevirtual 25, 3) := by decide +kernel
theorem dX5_popInto_38 : decode cX5_popInto 38 = .ok (.return_, 1) := by decide +kernel
theorem dX5_clear_0 : decode cX5_clear 0 = .ok (.aload_n 0, 1) := by decide +kernel
theorem dX5_clear_1 : decode cX5_clear 1 = .ok (.iconst 0, 1) := by decide +kernel
theorem dX5_clear_2 : decode cX5_clear 2 = .ok (.putfield 22, 3) := by decide +kernel
theorem dX5_clear_5 : decode cX5_clear 5 = .ok (.return_, 1) := by decide +kernel
theorem dX7_init_0 : decode cX7_init 0 = .ok (.aload_n 0, 1) := by decide +kernel
theorem dX7_init_1 : decode cX7_init 1 = .ok (.invokespecial 3, 3) := by decide +kernel
theorem dX7_init_4 : decode cX7_init 4 = .ok (.aload_n 0, 1) := by decide +kernel
theorem dX7_init_5 : decode cX7_init 5 = .ok (.bipush 8, 2) := by decide +kernel
theorem dX7_init_7 : decode cX7_init 7 = .ok (.newarray .int, 2) := by decide +kernel
theorem dX7_init_9 : decode cX7_init 9 = .ok (.putfield 9, 3) := by decide +kernel
theorem dX7_init_12 : decode cX7_init 12 = .ok (.aload_n 0, 1) := by decide +kernel
theorem dX7_init_13 : decode cX7_init 13 = .ok (.bipush 8, 2) := by decide +kernel
theorem dX7_init_15 : decode cX7_init 15 = .ok (.newarray .int, 2) := by decide +kernel
theorem dX7_init_17 : decode cX7_init 17 = .ok (.putfield 15, 3) := by decide +kernel
theorem dX7_init_20 : decode cX7_init 20 = .ok (.aload_n 0, 1) := by decide +kernel
theorem dX7_init_21 : decode cX7_init 21 = .ok (.bipush 8, 2) := by decide +kernel
theorem dX7_init_23 : decode cX7_init 23 = .ok (.newarray .int, 2) := by decide +kernel
theorem dX7_init_25 : decode cX7_init 25 = .ok (.putfield 18, 3) := by decide +kernel
theorem dX7_init_28 : decode cX7_init 28 = .ok (.aload_n 0, 1) := by decide +kernel
theorem dX7_init_29 : decode cX7_init 29 = .ok (.bipush 8, 2) := by decide +kernel
theorem dX7_init_31 : decode cX7_init 31 = .ok (.newarray .int, 2) := by decide +kernel
theorem dX7_init_33 : decode cX7_init 33 = .ok (.putfield 21, 3) := by decide +kernel
theorem dX7_init_36 : decode cX7_init 36 = .ok (.aload_n 0, 1) := by decide +kernel
theorem dX7_init_37 : decode cX7_init 37 = .ok (.bipush 8, 2) := by decide +kernel
theorem dX7_init_39 : decode cX7_init 39 = .ok (.newarray .boolean, 2) := by decide +kernel
theorem dX7_init_41 : decode cX7_init 41 = .ok (.putfield 24, 3) := by decide +kernel
theorem dX7_init_44 : decode cX7_init 44 = .ok (.return_, 1) := by decide +kernel
theorem dX7_exists_0 : decode cX7_exists 0 = .ok (.iload_n 1, 1) := by decide +kernel
theorem dX7_exists_1 : decode cX7_exists 1 = .ok (.ifCond .lt 15, 3) := by decide +kernel
theorem dX7_exists_4 : decode cX7_exists 4 = .ok (.iload_n 1, 1) := by decide +kernel
theorem dX7_exists_5 : decode cX7_exists 5 = .ok (.aload_n 0, 1) := by decide +kernel
theorem dX7_exists_6 : decode cX7_exists 6 = .ok (.getfield 28, 3) := by decide +kernel
theorem dX7_exists_9 : decode cX7_exists 9 = .ok (.if_icmp .ge 7, 3) := by decide +kernel
theorem dX7_exists_12 : decode cX7_exists 12 = .ok (.iconst 1, 1) := by decide +kernel
theorem dX7_exists_13 : decode cX7_exists 13 = .ok (.goto 4, 3) := by decide +kernel
theorem dX7_exists_16 : decode cX7_exists 16 = .ok (.iconst 0, 1) := by decide +kernel
theorem dX7_exists_17 : decode cX7_exists 17 = .ok (.ireturn, 1) := by decide +kernel
theorem dX7_isTaken_0 : decode cX7_isTaken 0 = .ok (.iload_n 1, 1) := by decide +kernel
theorem dX7_isTaken_1 : decode cX7_isTaken 1 = .ok (.ifCond .lt 25, 3) := by decide +kernel
theorem dX7_isTaken_4 : decode cX7_isTaken 4 = .ok (.iload_n 1, 1) := by decide +kernel
theorem dX7_isTaken_5 : decode cX7_isTaken 5 = .ok (.aload_n 0, 1) := by decide +kernel
theorem dX7_isTaken_6 : decode cX7_isTaken 6 = .ok (.getfield 28, 3) := by decide +kernel
theorem dX7_isTaken_9 : decode cX7_isTaken 9 = .ok (.if_icmp .ge 17, 3) := by decide +kernel
theorem dX7_isTaken_12 : decode cX7_isTaken 12 = .ok (.aload_n 0, 1) := by decide +kernel
theorem dX7_isTaken_13 : decode cX7_isTaken 13 = .ok (.getfield 15, 3) := by decide +kernel
theorem dX7_isTaken_16 : decode cX7_isTaken 16 = .ok (.iload_n 1, 1) := by decide +kernel
theorem dX7_isTaken_17 : decode cX7_isTaken 17 = .ok (.iaload, 1) := by decide +kernel
theorem dX7_isTaken_18 : decode cX7_isTaken 18 = .ok (.iconst (-1), 1) := by decide +kernel
theorem dX7_isTaken_19 : decode cX7_isTaken 19 = .ok (.if_icmp .eq 7, 3) := by decide +kernel
theorem dX7_isTaken_22 : decode cX7_isTaken 22 = .ok (.iconst 1, 1) := by decide +kernel
theorem dX7_isTaken_23 : decode cX7_isTaken 23 = .ok (.goto 4, 3) := by decide +kernel
theorem dX7_isTaken_26 : decode cX7_isTaken 26 = .ok (.iconst 0, 1) := by decide +kernel
theorem dX7_isTaken_27 : decode cX7_isTaken 27 = .ok (.ireturn, 1) := by decide +kernel
theorem dX7_isTakenBy_0 : decode cX7_isTakenBy 0 = .ok (.iload_n 1, 1) := by decide +kernel
theorem dX7_isTakenBy_1 : decode cX7_isTakenBy 1 = .ok (.ifCond .lt 25, 3) := by decide +kernel
theorem dX7_isTakenBy_4 : decode cX7_isTakenBy 4 = .ok (.iload_n 1, 1) := by decide +kernel
theorem dX7_isTakenBy_5 : decode cX7_isTakenBy 5 = .ok (.aload_n 0, 1) := by decide +kernel
theorem dX7_isTakenBy_6 : decode cX7_isTakenBy 6 = .ok (.getfield 28, 3) := by decide +kernel
theorem dX7_isTakenBy_9 : decode cX7_isTakenBy 9 = .ok (.if_icmp .ge 17, 3) := by decide +kernel
theorem dX7_isTakenBy_12 : decode cX7_isTakenBy 12 = .ok (.aload_n 0, 1) := by decide +kernel
theorem dX7_isTakenBy_13 : decode cX7_isTakenBy 13 = .ok (.getfield 15, 3) := by decide +kernel
theorem dX7_isTakenBy_16 : decode cX7_isTakenBy 16 = .ok (.iload_n 1, 1) := by decide +kernel
theorem dX7_isTakenBy_17 : decode cX7_isTakenBy 17 = .ok (.iaload, 1) := by decide +kernel
theorem dX7_isTakenBy_18 : decode cX7_isTakenBy 18 = .ok (.iload_n 2, 1) := by decide +kernel
theorem dX7_isTakenBy_19 : decode cX7_isTakenBy 19 = .ok (.if_icmp .ne 7, 3) := by decide +kernel
theorem dX7_isTakenBy_22 : decode cX7_isTakenBy 22 = .ok (.iconst 1, 1) := by decide +kernel
theorem dX7_isTakenBy_23 : decode cX7_isTakenBy 23 = .ok (.goto 4, 3) := by decide +kernel
theorem dX7_isTakenBy_26 : decode cX7_isTakenBy 26 = .ok (.iconst 0, 1) := by decide +kernel
theorem dX7_isTakenBy_27 : decode cX7_isTakenBy 27 = .ok (.ireturn, 1) := by decide +kernel
theorem dX7_append_0 : decode cX7_append 0 = .ok (.aload_n 0, 1) := by decide +kernel
theorem dX7_append_1 : decode cX7_append 1 = .ok (.getfield 28, 3) := by decide +kernel
theorem dX7_append_4 : decode cX7_append 4 = .ok (.bipush 8, 2) := by decide +kernel
theorem dX7_append_6 : decode cX7_append 6 = .ok (.if_icmp .lt 5, 3) := by decide +kernel
theorem dX7_append_9 : decode cX7_append 9 = .ok (.iconst (-1), 1) := by decide +kernel
theorem dX7_append_10 : decode cX7_append 10 = .ok (.ireturn, 1) := by decide +kernel
theorem dX7_append_11 : decode cX7_append 11 = .ok (.aload_n 0, 1) := by decide +kernel
theorem dX7_append_12 : decode cX7_append 12 = .ok (.getfield 28, 3) := by decide +kernel
theorem dX7_append_15 : decode cX7_append 15 = .ok (.istore_n 2, 1) := by decide +kernel
theorem dX7_append_16 : decode cX7_append 16 = .ok (.aload_n 0, 1) := by decide +kernel
theorem dX7_append_17 : decode cX7_append 17 = .ok (.dup, 1) := by decide +kernel
theorem dX7_append_18 : decode cX7_append 18 = .ok (.getfield 28, 3) := by decide +kernel
theorem dX7_append_21 : decode cX7_append 21 = .ok (.iconst 1, 1) := by decide +kernel
theorem dX7_append_22 : decode cX7_append 22 = .ok (.iadd, 1) := by decide +kernel
theorem dX7_append_23 : decode cX7_append 23 = .ok (.putfield 28, 3) := by decide +kernel
theorem dX7_append_26 : decode cX7_append 26 = .ok (.aload_n 0, 1) := by decide +kernel
theorem dX7_append_27 : decode cX7_append 27 = .ok (.getfield 9, 3) := by decide +kernel
theorem dX7_append_30 : decode cX7_append 30 = .ok (.iload_n 2, 1) := by decide +kernel
theorem dX7_append_31 : decode cX7_append 31 = .ok (.iload_n 1, 1) := by decide +kernel
theorem dX7_append_32 : decode cX7_append 32 = .ok (.iastore, 1) := by decide +kernel
theorem dX7_append_33 : decode cX7_append 33 = .ok (.aload_n 0, 1) := by decide +kernel
theorem dX7_append_34 : decode cX7_append 34 = .ok (.getfield 15, 3) := by decide +kernel
theorem dX7_append_37 : decode cX7_append 37 = .ok (.iload_n 2, 1) := by decide +kernel
theorem dX7_append_38 : decode cX7_append 38 = .ok (.iconst (-1), 1) := by decide +kernel
theorem dX7_append_39 : decode cX7_append 39 = .ok (.iastore, 1) := by decide +kernel
theorem dX7_append_40 : decode cX7_append 40 = .ok (.aload_n 0, 1) := by decide +kernel
theorem dX7_append_41 : decode cX7_append 41 = .ok (.getfield 18, 3) := by decide +kernel
theorem dX7_append_44 : decode cX7_append 44 = .ok (.iload_n 2, 1) := by decide +kernel
theorem dX7_append_45 : decode cX7_append 45 = .ok (.iconst 0, 1) := by decide +kernel
theorem dX7_append_46 : decode cX7_append 46 = .ok (.iastore, 1) := by decide +kernel
theorem dX7_append_47 : decode cX7_append 47 = .ok (.aload_n 0, 1) := by decide +kernel
theorem dX7_append_48 : decode cX7_append 48 = .ok (.getfield 21, 3) := by decide +kernel
theorem dX7_append_51 : decode cX7_append 51 = .ok (.iload_n 2, 1) := by decide +kernel
theorem dX7_append_52 : decode cX7_append 52 = .ok (.iconst 0, 1) := by decide +kernel
theorem dX7_append_53 : decode cX7_append 53 = .ok (.iastore, 1) := by decide +kernel
theorem dX7_append_54 : decode cX7_append 54 = .ok (.aload_n 0, 1) := by decide +kernel
theorem dX7_append_55 : decode cX7_append 55 = .ok (.getfield 24, 3) := by decide +kernel
theorem dX7_append_58 : decode cX7_append 58 = .ok (.iload_n 2, 1) := by decide +kernel
theorem dX7_append_59 : decode cX7_append 59 = .ok (.iconst 0, 1) := by decide +kernel
theorem dX7_append_60 : decode cX7_append 60 = .ok (.bastore, 1) := by decide +kernel
theorem dX7_append_61 : decode cX7_append 61 = .ok (.iload_n 2, 1) := by decide +kernel
theorem dX7_append_62 : decode cX7_append 62 = .ok (.ireturn, 1) := by decide +kernel
theorem dX7_countTaken_0 : decode cX7_countTaken 0 = .ok (.iconst 0, 1) := by decide +kernel
theorem dX7_countTaken_1 : decode cX7_countTaken 1 = .ok (.istore_n 1, 1) := by decide +kernel
theorem dX7_countTaken_2 : decode cX7_countTaken 2 = .ok (.iconst 0, 1) := by decide +kernel
theorem dX7_countTaken_3 : decode cX7_countTaken 3 = .ok (.istore_n 2, 1) := by decide +kernel
theorem dX7_countTaken_4 : decode cX7_countTaken 4 = .ok (.iload_n 2, 1) := by decide +kernel
theorem dX7_countTaken_5 : decode cX7_countTaken 5 = .ok (.aload_n 0, 1) := by decide +kernel
theorem dX7_countTaken_6 : decode cX7_countTaken 6 = .ok (.getfield 28, 3) := by decide +kernel
theorem dX7_countTaken_9 : decode cX7_countTaken 9 = .ok (.if_icmp .ge 20, 3) := by decide +kernel
theorem dX7_countTaken_12 : decode cX7_countTaken 12 = .ok (.aload_n 0, 1) := by decide +kernel
theorem dX7_countTaken_13 : decode cX7_countTaken 13 = .ok (.iload_n 2, 1) := by decide +kernel
theorem dX7_countTaken_14 : decode cX7_countTaken 14 = .ok (.invokevirtual 32, 3) := by decide +kernel
theorem dX7_countTaken_17 : decode cX7_countTaken 17 = .ok (.ifCond .eq 6, 3) := by decide +kernel
theorem dX7_countTaken_20 : decode cX7_countTaken 20 = .ok (.iinc 1 1, 3) := by decide +kernel
theorem dX7_countTaken_23 : decode cX7_countTaken 23 = .ok (.iinc 2 1, 3) := by decide +kernel
theorem dX7_countTaken_26 : decode cX7_countTaken 26 = .ok (.goto (-22), 3) := by decide +kernel
theorem dX7_countTaken_29 : decode cX7_countTaken 29 = .ok (.iload_n 1, 1) := by decide +kernel
theorem dX7_countTaken_30 : decode cX7_countTaken 30 = .ok (.ireturn, 1) := by decide +kernel
theorem dX7_countOf_0 : decode cX7_countOf 0 = .ok (.iconst 0, 1) := by decide +kernel
theorem dX7_countOf_1 : decode cX7_countOf 1 = .ok (.istore_n 2, 1) := by decide +kernel
theorem dX7_countOf_2 : decode cX7_countOf 2 = .ok (.iconst 0, 1) := by decide +kernel
theorem dX7_countOf_3 : decode cX7_countOf 3 = .ok (.istore_n 3, 1) := by decide +kernel
theorem dX7_countOf_4 : decode cX7_countOf 4 = .ok (.iload_n 3, 1) := by decide +kernel
theorem dX7_countOf_5 : decode cX7_countOf 5 = .ok (.aload_n 0, 1) := by decide +kernel
theorem dX7_countOf_6 : decode cX7_countOf 6 = .ok (.getfield 28, 3) := by decide +kernel
theorem dX7_countOf_9 : decode cX7_countOf 9 = .ok (.if_icmp .ge 21, 3) := by decide +kernel
theorem dX7_countOf_12 : decode cX7_countOf 12 = .ok (.aload_n 0, 1) := by decide +kernel
theorem dX7_countOf_13 : decode cX7_countOf 13 = .ok (.iload_n 3, 1) := by decide +kernel
theorem dX7_countOf_14 : decode cX7_countOf 14 = .ok (.iload_n 1, 1) := by decide +kernel
theorem dX7_countOf_15 : decode cX7_countOf 15 = .ok (.invokevirtual 36, 3) := by decide +kernel
theorem dX7_countOf_18 : decode cX7_countOf 18 = .ok (.ifCond .eq 6, 3) := by decide +kernel
theorem dX7_countOf_21 : decode cX7_countOf 21 = .ok (.iinc 2 1, 3) := by decide +kernel
theorem dX7_countOf_24 : decode cX7_countOf 24 = .ok (.iinc 3 1, 3) := by decide +kernel
theorem dX7_countOf_27 : decode cX7_countOf 27 = .ok (.goto (-23), 3) := by decide +kernel
theorem dX7_countOf_30 : decode cX7_countOf 30 = .ok (.iload_n 2, 1) := by decide +kernel
theorem dX7_countOf_31 : decode cX7_countOf 31 = .ok (.ireturn, 1) := by decide +kernel
theorem dX7_anyBrightOf_0 : decode cX7_anyBrightOf 0 = .ok (.iconst 0, 1) := by decide +kernel
theorem dX7_anyBrightOf_1 : decode cX7_anyBrightOf 1 = .ok (.istore_n 2, 1) := by decide +kernel
theorem dX7_anyBrightOf_2 : decode cX7_anyBrightOf 2 = .ok (.iload_n 2, 1) := by decide +kernel
theorem dX7_anyBrightOf_3 : decode cX7_anyBrightOf 3 = .ok (.aload_n 0, 1) := by decide +kernel
theorem dX7_anyBrightOf_4 : decode cX7_anyBrightOf 4 = .ok (.getfield 28, 3) := by decide +kernel
theorem dX7_anyBrightOf_7 : decode cX7_anyBrightOf 7 = .ok (.if_icmp .ge 29, 3) := by decide +kernel
theorem dX7_anyBrightOf_10 : decode cX7_anyBrightOf 10 = .ok (.aload_n 0, 1) := by decide +kernel
theorem dX7_anyBrightOf_11 : decode cX7_anyBrightOf 11 = .ok (.iload_n 2, 1) := by decide +kernel
theorem dX7_anyBrightOf_12 : decode cX7_anyBrightOf 12 = .ok (.iload_n 1, 1) := by decide +kernel
theorem dX7_anyBrightOf_13 : decode cX7_anyBrightOf 13 = .ok (.invokevirtual 36, 3) := by decide +kernel
theorem dX7_anyBrightOf_16 : decode cX7_anyBrightOf 16 = .ok (.ifCond .eq 14, 3) := by decide +kernel
theorem dX7_anyBrightOf_19 : decode cX7_anyBrightOf 19 = .ok (.aload_n 0, 1) := by decide +kernel
theorem dX7_anyBrightOf_20 : decode cX7_anyBrightOf 20 = .ok (.getfield 24, 3) := by decide +kernel
theorem dX7_anyBrightOf_23 : decode cX7_anyBrightOf 23 = .ok (.iload_n 2, 1) := by decide +kernel
theorem dX7_anyBrightOf_24 : decode cX7_anyBrightOf 24 = .ok (.baload, 1) := by decide +kernel
theorem dX7_anyBrightOf_25 : decode cX7_anyBrightOf 25 = .ok (.ifCond .eq 5, 3) := by decide +kernel
theorem dX7_anyBrightOf_28 : decode cX7_anyBrightOf 28 = .ok (.iconst 1, 1) := by decide +kernel
theorem dX7_anyBrightOf_29 : decode cX7_anyBrightOf 29 = .ok (.ireturn, 1) := by decide +kernel
theorem dX7_anyBrightOf_30 : decode cX7_anyBrightOf 30 = .ok (.iinc 2 1, 3) := by decide +kernel
theorem dX7_anyBrightOf_33 : decode cX7_anyBrightOf 33 = .ok (.goto (-31), 3) := by decide +kernel
theorem dX7_anyBrightOf_36 : decode cX7_anyBrightOf 36 = .ok (.iconst 0, 1) := by decide +kernel
theorem dX7_anyBrightOf_37 : decode cX7_anyBrightOf 37 = .ok (.ireturn, 1) := by decide +kernel
theorem dX7_demandOf_0 : decode cX7_demandOf 0 = .ok (.iconst 0, 1) := by decide +kernel
theorem dX7_demandOf_1 : decode cX7_demandOf 1 = .ok (.istore_n 2, 1) := by decide +kernel
theorem dX7_demandOf_2 : decode cX7_demandOf 2 = .ok (.iconst 0, 1) := by decide +kernel
theorem dX7_demandOf_3 : decode cX7_demandOf 3 = .ok (.istore_n 3, 1) := by decide +kernel
theorem dX7_demandOf_4 : decode cX7_demandOf 4 = .ok (.iload_n 3, 1) := by decide +kernel
theorem dX7_demandOf_5 : decode cX7_demandOf 5 = .ok (.aload_n 0, 1) := by decide +kernel
theorem dX7_demandOf_6 : decode cX7_demandOf 6 = .ok (.getfield 28, 3) := by decide +kernel
theorem dX7_demandOf_9 : decode cX7_demandOf 9 = .ok (.if_icmp .ge 27, 3) := by decide +kernel
theorem dX7_demandOf_12 : decode cX7_demandOf 12 = .ok (.aload_n 0, 1) := by decide +kernel
theorem dX7_demandOf_13 : decode cX7_demandOf 13 = .ok (.iload_n 3, 1) := by decide +kernel
theorem dX7_demandOf_14 : decode cX7_demandOf 14 = .ok (.iload_n 1, 1) := by decide +kernel
theorem dX7_demandOf_15 : decode cX7_demandOf 15 = .ok (.invokevirtual 36, 3) := by decide +kernel
theorem dX7_demandOf_18 : decode cX7_demandOf 18 = .ok (.ifCond .eq 12, 3) := by decide +kernel
theorem dX7_demandOf_21 : decode cX7_demandOf 21 = .ok (.iload_n 2, 1) := by decide +kernel
theorem dX7_demandOf_22 : decode cX7_demandOf 22 = .ok (.aload_n 0, 1) := by decide +kernel
theorem dX7_demandOf_23 : decode cX7_demandOf 23 = .ok (.getfield 9, 3) := by decide +kernel
theorem dX7_demandOf_26 : decode cX7_demandOf 26 = .ok (.iload_n 3, 1) := by decide +kernel
theorem dX7_demandOf_27 : decode cX7_demandOf 27 = .ok (.iaload, 1) := by decide +kernel
theorem dX7_demandOf_28 : decode cX7_demandOf 28 = .ok (.iadd, 1) := by decide +kernel
theorem dX7_demandOf_29 : decode cX7_demandOf 29 = .ok (.istore_n 2, 1) := by decide +kernel
theorem dX7_demandOf_30 : decode cX7_demandOf 30 = .ok (.iinc 3 1, 3) := by decide +kernel
theorem dX7_demandOf_33 : decode cX7_demandOf 33 = .ok (.goto (-29), 3) := by decide +kernel
theorem dX7_demandOf_36 : decode cX7_demandOf 36 = .ok (.iload_n 2, 1) := by decide +kernel
theorem dX7_demandOf_37 : decode cX7_demandOf 37 = .ok (.ireturn, 1) := by decide +kernel
theorem dX7_demandOfAll_0 : decode cX7_demandOfAll 0 = .ok (.iconst 0, 1) := by decide +kernel
theorem dX7_demandOfAll_1 : decode cX7_demandOfAll 1 = .ok (.istore_n 1, 1) := by decide +kernel
theorem dX7_demandOfAll_2 : decode cX7_demandOfAll 2 = .ok (.iconst 0, 1) := by decide +kernel
theorem dX7_demandOfAll_3 : decode cX7_demandOfAll 3 = .ok (.istore_n 2, 1) := by decide +kernel
theorem dX7_demandOfAll_4 : decode cX7_demandOfAll 4 = .ok (.iload_n 2, 1) := by decide +kernel
theorem dX7_demandOfAll_5 : decode cX7_demandOfAll 5 = .ok (.aload_n 0, 1) := by decide +kernel
theorem dX7_demandOfAll_6 : decode cX7_demandOfAll 6 = .ok (.getfield 28, 3) := by decide +kernel
theorem dX7_demandOfAll_9 : decode cX7_demandOfAll 9 = .ok (.if_icmp .ge 26, 3) := by decide +kernel
theorem dX7_demandOfAll_12 : decode cX7_demandOfAll 12 = .ok (.aload_n 0, 1) := by decide +kernel
theorem dX7_demandOfAll_13 : decode cX7_demandOfAll 13 = .ok (.iload_n 2, 1) := by decide +kernel
theorem dX7_demandOfAll_14 : decode cX7_demandOfAll 14 = .ok (.invokevirtual 32, 3) := by decide +kernel
theorem dX7_demandOfAll_17 : decode cX7_demandOfAll 17 = .ok (.ifCond .eq 12, 3) := by decide +kernel
theorem dX7_demandOfAll_20 : decode cX7_demandOfAll 20 = .ok (.iload_n 1, 1) := by decide +kernel
theorem dX7_demandOfAll_21 : decode cX7_demandOfAll 21 = .ok (.aload_n 0, 1) := by decide +kernel
theorem dX7_demandOfAll_22 : decode cX7_demandOfAll 22 = .ok (.getfield 9, 3) := by decide +kernel
theorem dX7_demandOfAll_25 : decode cX7_demandOfAll 25 = .ok (.iload_n 2, 1) := by decide +kernel
theorem dX7_demandOfAll_26 : decode cX7_demandOfAll 26 = .ok (.iaload, 1) := by decide +kernel
theorem dX7_demandOfAll_27 : decode cX7_demandOfAll 27 = .ok (.iadd, 1) := by decide +kernel
theorem dX7_demandOfAll_28 : decode cX7_demandOfAll 28 = .ok (.istore_n 1, 1) := by decide +kernel
theorem dX7_demandOfAll_29 : decode cX7_demandOfAll 29 = .ok (.iinc 2 1, 3) := by decide +kernel
theorem dX7_demandOfAll_32 : decode cX7_demandOfAll 32 = .ok (.goto (-28), 3) := by decide +kernel
theorem dX7_demandOfAll_35 : decode cX7_demandOfAll 35 = .ok (.iload_n 1, 1) := by decide +kernel
theorem dX7_demandOfAll_36 : decode cX7_demandOfAll 36 = .ok (.ireturn, 1) := by decide +kernel
theorem dX7_demandAfter_0 : decode cX7_demandAfter 0 = .ok (.iconst 0, 1) := by decide +kernel
theorem dX7_demandAfter_1 : decode cX7_demandAfter 1 = .ok (.istore_n 2, 1) := by decide +kernel
theorem dX7_demandAfter_2 : decode cX7_demandAfter 2 = .ok (.iconst 0, 1) := by decide +kernel
theorem dX7_demandAfter_3 : decode cX7_demandAfter 3 = .ok (.istore_n 3, 1) := by decide +kernel
theorem dX7_demandAfter_4 : decode cX7_demandAfter 4 = .ok (.iload_n 3, 1) := by decide +kernel
theorem dX7_demandAfter_5 : decode cX7_demandAfter 5 = .ok (.aload_n 0, 1) := by decide +kernel
theorem dX7_demandAfter_6 : decode cX7_demandAfter 6 = .ok (.getfield 28, 3) := by decide +kernel
theorem dX7_demandAfter_9 : decode cX7_demandAfter 9 = .ok (.if_icmp .ge 36, 3) := by decide +kernel
theorem dX7_demandAfter_12 : decode cX7_demandAfter 12 = .ok (.aload_n 0, 1) := by decide +kernel
theorem dX7_demandAfter_13 : decode cX7_demandAfter 13 = .ok (.iload_n 3, 1) := by decide +kernel
theorem dX7_demandAfter_14 : decode cX7_demandAfter 14 = .ok (.invokevirtual 32, 3) := by decide +kernel
theorem dX7_demandAfter_17 : decode cX7_demandAfter 17 = .ok (.ifCond .eq 22, 3) := by decide +kernel
theorem dX7_demandAfter_20 : decode cX7_demandAfter 20 = .ok (.aload_n 0, 1) := by decide +kernel
theorem dX7_demandAfter_21 : decode cX7_demandAfter 21 = .ok (.getfield 18, 3) := by decide +kernel
theorem dX7_demandAfter_24 : decode cX7_demandAfter 24 = .ok (.iload_n 3, 1) := by decide +kernel
theorem dX7_demandAfter_25 : decode cX7_demandAfter 25 = .ok (.iaload, 1) := by decide +kernel
theorem dX7_demandAfter_26 : decode cX7_demandAfter 26 = .ok (.iload_n 1, 1) := by decide +kernel
theorem dX7_demandAfter_27 : decode cX7_demandAfter 27 = .ok (.if_icmp .le 12, 3) := by decide +kernel
theorem dX7_demandAfter_30 : decode cX7_demandAfter 30 = .ok (.iload_n 2, 1) := by decide +kernel
theorem dX7_demandAfter_31 : decode cX7_demandAfter 31 = .ok (.aload_n 0, 1) := by decide +kernel
theorem dX7_demandAfter_32 : decode cX7_demandAfter 32 = .ok (.getfield 9, 3) := by decide +kernel
theorem dX7_demandAfter_35 : decode cX7_demandAfter 35 = .ok (.iload_n 3, 1) := by decide +kernel
theorem dX7_demandAfter_36 : decode cX7_demandAfter 36 = .ok (.iaload, 1) := by decide +kernel
theorem dX7_demandAfter_37 : decode cX7_demandAfter 37 = .ok (.iadd, 1) := by decide +kernel
theorem dX7_demandAfter_38 : decode cX7_demandAfter 38 = .ok (.istore_n 2, 1) := by decide +kernel
theorem dX7_demandAfter_39 : decode cX7_demandAfter 39 = .ok (.iinc 3 1, 3) := by decide +kernel
theorem dX7_demandAfter_42 : decode cX7_demandAfter 42 = .ok (.goto (-38), 3) := by decide +kernel
theorem dX7_demandAfter_45 : decode cX7_demandAfter 45 = .ok (.iload_n 2, 1) := by decide +kernel
theorem dX7_demandAfter_46 : decode cX7_demandAfter 46 = .ok (.ireturn, 1) := by decide +kernel
theorem dX7_firstEndAfter_0 : decode cX7_firstEndAfter 0 = .ok (.iconst (-1), 1) := by decide +kernel
theorem dX7_firstEndAfter_1 : decode cX7_firstEndAfter 1 = .ok (.istore_n 2, 1) := by decide +kernel
theorem dX7_firstEndAfter_2 : decode cX7_firstEndAfter 2 = .ok (.iconst 0, 1) := by decide +kernel
theorem dX7_firstEndAfter_3 : decode cX7_firstEndAfter 3 = .ok (.istore_n 3, 1) := by decide +kernel
theorem dX7_firstEndAfter_4 : decode cX7_firstEndAfter 4 = .ok (.iload_n 3, 1) := by decide +kernel
theorem dX7_firstEndAfter_5 : decode cX7_firstEndAfter 5 = .ok (.aload_n 0, 1) := by decide +kernel
theorem dX7_firstEndAfter_6 : decode cX7_firstEndAfter 6 = .ok (.getfield 28, 3) := by decide +kernel
theorem dX7_firstEndAfter_9 : decode cX7_firstEndAfter 9 = .ok (.if_icmp .ge 49, 3) := by decide +kernel
theorem dX7_firstEndAfter_12 : decode cX7_firstEndAfter 12 = .ok (.aload_n 0, 1) := by decide +kernel
theorem dX7_firstEndAfter_13 : decode cX7_firstEndAfter 13 = .ok (.iload_n 3, 1) := by decide +kernel
theorem dX7_firstEndAfter_14 : decode cX7_firstEndAfter 14 = .ok (.invokevirtual 32, 3) := by decide +kernel
theorem dX7_firstEndAfter_17 : decode cX7_firstEndAfter 17 = .ok (.ifCond .eq 35, 3) := by decide +kernel
theorem dX7_firstEndAfter_20 : decode cX7_firstEndAfter 20 = .ok (.aload_n 0, 1) := by decide +kernel
theorem dX7_firstEndAfter_21 : decode cX7_firstEndAfter 21 = .ok (.getfield 18, 3) := by decide +kernel
theorem dX7_firstEndAfter_24 : decode cX7_firstEndAfter 24 = .ok (.iload_n 3, 1) := by decide +kernel
theorem dX7_firstEndAfter_25 : decode cX7_firstEndAfter 25 = .ok (.iaload, 1) := by decide +kernel
theorem dX7_firstEndAfter_26 : decode cX7_firstEndAfter 26 = .ok (.iload_n 1, 1) := by decide +kernel
theorem dX7_firstEndAfter_27 : decode cX7_firstEndAfter 27 = .ok (.if_icmp .le 25, 3) := by decide +kernel
theorem dX7_firstEndAfter_30 : decode cX7_firstEndAfter 30 = .ok (.iload_n 2, 1) := by decide +kernel
theorem dX7_firstEndAfter_31 : decode cX7_firstEndAfter 31 = .ok (.iconst (-1), 1) := by decide +kernel
theorem dX7_firstEndAfter_32 : decode cX7_firstEndAfter 32 = .ok (.if_icmp .eq 13, 3) := by decide +kernel
theorem dX7_firstEndAfter_35 : decode cX7_firstEndAfter 35 = .ok (.aload_n 0, 1) := by decide +kernel
theorem dX7_firstEndAfter_36 : decode cX7_firstEndAfter 36 = .ok (.getfield 18, 3) := by decide +kernel
theorem dX7_firstEndAfter_39 : decode cX7_firstEndAfter 39 = .ok (.iload_n 3, 1) := by decide +kernel
theorem dX7_firstEndAfter_40 : decode cX7_firstEndAfter 40 = .ok (.iaload, 1) := by decide +kernel
theorem dX7_firstEndAfter_41 : decode cX7_firstEndAfter 41 = .ok (.iload_n 2, 1) := by decide +kernel
theorem dX7_firstEndAfter_42 : decode cX7_firstEndAfter 42 = .ok (.if_icmp .ge 10, 3) := by decide +kernel
theorem dX7_firstEndAfter_45 : decode cX7_firstEndAfter 45 = .ok (.aload_n 0, 1) := by decide +kernel
theorem dX7_firstEndAfter_46 : decode cX7_firstEndAfter 46 = .ok (.getfield 18, 3) := by decide +kernel
theorem dX7_firstEndAfter_49 : decode cX7_firstEndAfter 49 = .ok (.iload_n 3, 1) := by decide +kernel
theorem dX7_firstEndAfter_50 : decode cX7_firstEndAfter 50 = .ok (.iaload, 1) := by decide +kernel
theorem dX7_firstEndAfter_51 : decode cX7_firstEndAfter 51 = .ok (.istore_n 2, 1) := by decide +kernel
theorem dX7_firstEndAfter_52 : decode cX7_firstEndAfter 52 = .ok (.iinc 3 1, 3) := by decide +kernel
theorem dX7_firstEndAfter_55 : decode cX7_firstEndAfter 55 = .ok (.goto (-51), 3) := by decide +kernel
theorem dX7_firstEndAfter_58 : decode cX7_firstEndAfter 58 = .ok (.iload_n 2, 1) := by decide +kernel
theorem dX7_firstEndAfter_59 : decode cX7_firstEndAfter 59 = .ok (.ireturn, 1) := by decide +kernel
theorem dX7_atRank_0 : decode cX7_atRank 0 = .ok (.iconst 0, 1) := by decide +kernel
theorem dX7_atRank_1 : decode cX7_atRank 1 = .ok (.istore_n 2, 1) := by decide +kernel
theorem dX7_atRank_2 : decode cX7_atRank 2 = .ok (.iload_n 2, 1) := by decide +kernel
theorem dX7_atRank_3 : decode cX7_atRank 3 = .ok (.aload_n 0, 1) := by decide +kernel
theorem dX7_atRank_4 : decode cX7_atRank 4 = .ok (.getfield 28, 3) := by decide +kernel
theorem dX7_atRank_7 : decode cX7_atRank 7 = .ok (.if_icmp .ge 28, 3) := by decide +kernel
theorem dX7_atRank_10 : decode cX7_atRank 10 = .ok (.aload_n 0, 1) := by decide +kernel
theorem dX7_atRank_11 : decode cX7_atRank 11 = .ok (.iload_n 2, 1) := by decide +kernel
theorem dX7_atRank_12 : decode cX7_atRank 12 = .ok (.invokevirtual 32, 3) := by decide +kernel
theorem dX7_atRank_15 : decode cX7_atRank 15 = .ok (.ifCond .eq 14, 3) := by decide +kernel
theorem dX7_atRank_18 : decode cX7_atRank 18 = .ok (.aload_n 0, 1) := by decide +kernel
theorem dX7_atRank_19 : decode cX7_atRank 19 = .ok (.iload_n 2, 1) := by decide +kernel
theorem dX7_atRank_20 : decode cX7_atRank 20 = .ok (.invokevirtual 40, 3) := by decide +kernel
theorem dX7_atRank_23 : decode cX7_atRank 23 = .ok (.iload_n 1, 1) := by decide +kernel
theorem dX7_atRank_24 : decode cX7_atRank 24 = .ok (.if_icmp .ne 5, 3) := by decide +kernel
theorem dX7_atRank_27 : decode cX7_atRank 27 = .ok (.iload_n 2, 1) := by decide +kernel
theorem dX7_atRank_28 : decode cX7_atRank 28 = .ok (.ireturn, 1) := by decide +kernel
theorem dX7_atRank_29 : decode cX7_atRank 29 = .ok (.iinc 2 1, 3) := by decide +kernel
theorem dX7_atRank_32 : decode cX7_atRank 32 = .ok (.goto (-30), 3) := by decide +kernel
theorem dX7_atRank_35 : decode cX7_atRank 35 = .ok (.iconst (-1), 1) := by decide +kernel
theorem dX7_atRank_36 : decode cX7_atRank 36 = .ok (.ireturn, 1) := by decide +kernel
theorem dX7_rankOf_0 : decode cX7_rankOf 0 = .ok (.iconst 0, 1) := by decide +kernel
theorem dX7_rankOf_1 : decode cX7_rankOf 1 = .ok (.istore_n 2, 1) := by decide +kernel
theorem dX7_rankOf_2 : decode cX7_rankOf 2 = .ok (.iconst 0, 1) := by decide +kernel
theorem dX7_rankOf_3 : decode cX7_rankOf 3 = .ok (.istore_n 3, 1) := by decide +kernel
theorem dX7_rankOf_4 : decode cX7_rankOf 4 = .ok (.iload_n 3, 1) := by decide +kernel
theorem dX7_rankOf_5 : decode cX7_rankOf 5 = .ok (.aload_n 0, 1) := by decide +kernel
theorem dX7_rankOf_6 : decode cX7_rankOf 6 = .ok (.getfield 28, 3) := by decide +kernel
theorem dX7_rankOf_9 : decode cX7_rankOf 9 = .ok (.if_icmp .ge 29, 3) := by decide +kernel
theorem dX7_rankOf_12 : decode cX7_rankOf 12 = .ok (.aload_n 0, 1) := by decide +kernel
theorem dX7_rankOf_13 : decode cX7_rankOf 13 = .ok (.iload_n 3, 1) := by decide +kernel
theorem dX7_rankOf_14 : decode cX7_rankOf 14 = .ok (.invokevirtual 32, 3) := by decide +kernel
theorem dX7_rankOf_17 : decode cX7_rankOf 17 = .ok (.ifCond .eq 15, 3) := by decide +kernel
theorem dX7_rankOf_20 : decode cX7_rankOf 20 = .ok (.aload_n 0, 1) := by decide +kernel
theorem dX7_rankOf_21 : decode cX7_rankOf 21 = .ok (.iload_n 3, 1) := by decide +kernel
theorem dX7_rankOf_22 : decode cX7_rankOf 22 = .ok (.iload_n 1, 1) := by decide +kernel
theorem dX7_rankOf_23 : decode cX7_rankOf 23 = .ok (.invokevirtual 44, 3) := by decide +kernel
theorem dX7_rankOf_26 : decode cX7_rankOf 26 = .ok (.ifCond .eq 6, 3) := by decide +kernel
theorem dX7_rankOf_29 : decode cX7_rankOf 29 = .ok (.iinc 2 1, 3) := by decide +kernel
theorem dX7_rankOf_32 : decode cX7_rankOf 32 = .ok (.iinc 3 1, 3) := by decide +kernel
theorem dX7_rankOf_35 : decode cX7_rankOf 35 = .ok (.goto (-31), 3) := by decide +kernel
theorem dX7_rankOf_38 : decode cX7_rankOf 38 = .ok (.iload_n 2, 1) := by decide +kernel
theorem dX7_rankOf_39 : decode cX7_rankOf 39 = .ok (.ireturn, 1) := by decide +kernel
theorem dX7_isBefore_0 : decode cX7_isBefore 0 = .ok (.aload_n 0, 1) := by decide +kernel
theorem dX7_isBefore_1 : decode cX7_isBefore 1 = .ok (.getfield 18, 3) := by decide +kernel
theorem dX7_isBefore_4 : decode cX7_isBefore 4 = .ok (.iload_n 1, 1) := by decide +kernel
theorem dX7_isBefore_5 : decode cX7_isBefore 5 = .ok (.iaload, 1) := by decide +kernel
theorem dX7_isBefore_6 : decode cX7_isBefore 6 = .ok (.aload_n 0, 1) := by decide +kernel
theorem dX7_isBefore_7 : decode cX7_isBefore 7 = .ok (.getfield 18, 3) := by decide +kernel
theorem dX7_isBefore_10 : decode cX7_isBefore 10 = .ok (.iload_n 2, 1) := by decide +kernel
theorem dX7_isBefore_11 : decode cX7_isBefore 11 = .ok (.iaload, 1) := by decide +kernel
theorem dX7_isBefore_12 : decode cX7_isBefore 12 = .ok (.if_icmp .eq 24, 3) := by decide +kernel
theorem dX7_isBefore_15 : decode cX7_isBefore 15 = .ok (.aload_n 0, 1) := by decide +kernel
theorem dX7_isBefore_16 : decode cX7_isBefore 16 = .ok (.getfield 18, 3) := by decide +kernel
theorem dX7_isBefore_19 : decode cX7_isBefore 19 = .ok (.iload_n 1, 1) := by decide +kernel
theorem dX7_isBefore_20 : decode cX7_isBefore 20 = .ok (.iaload, 1) := by decide +kernel
theorem dX7_isBefore_21 : decode cX7_isBefore 21 = .ok (.aload_n 0, 1) := by decide +kernel
theorem dX7_isBefore_22 : decode cX7_isBefore 22 = .ok (.getfield 18, 3) := by decide +kernel
theorem dX7_isBefore_25 : decode cX7_isBefore 25 = .ok (.iload_n 2, 1) := by decide +kernel
theorem dX7_isBefore_26 : decode cX7_isBefore 26 = .ok (.iaload, 1) := by decide +kernel
theorem dX7_isBefore_27 : decode cX7_isBefore 27 = .ok (.if_icmp .ge 7, 3) := by decide +kernel
theorem dX7_isBefore_30 : decode cX7_isBefore 30 = .ok (.iconst 1, 1) := by decide +kernel
theorem dX7_isBefore_31 : decode cX7_isBefore 31 = .ok (.goto 4, 3) := by decide +kernel
theorem dX7_isBefore_34 : decode cX7_isBefore 34 = .ok (.iconst 0, 1) := by decide +kernel
theorem dX7_isBefore_35 : decode cX7_isBefore 35 = .ok (.ireturn, 1) := by decide +kernel
theorem dX7_isBefore_36 : decode cX7_isBefore 36 = .ok (.aload_n 0, 1) := by decide +kernel
theorem dX7_isBefore_37 : decode cX7_isBefore 37 = .ok (.getfield 9, 3) := by decide +kernel
theorem dX7_isBefore_40 : decode cX7_isBefore 40 = .ok (.iload_n 1, 1) := by decide +kernel
theorem dX7_isBefore_41 : decode cX7_isBefore 41 = .ok (.iaload, 1) := by decide +kernel
theorem dX7_isBefore_42 : decode cX7_isBefore 42 = .ok (.aload_n 0, 1) := by decide +kernel
theorem dX7_isBefore_43 : decode cX7_isBefore 43 = .ok (.getfield 9, 3) := by decide +kernel
theorem dX7_isBefore_46 : decode cX7_isBefore 46 = .ok (.iload_n 2, 1) := by decide +kernel
theorem dX7_isBefore_47 : decode cX7_isBefore 47 = .ok (.iaload, 1) := by decide +kernel
theorem dX7_isBefore_48 : decode cX7_isBefore 48 = .ok (.if_icmp .eq 24, 3) := by decide +kernel
theorem dX7_isBefore_51 : decode cX7_isBefore 51 = .ok (.aload_n 0, 1) := by decide +kernel
theorem dX7_isBefore_52 : decode cX7_isBefore 52 = .ok (.getfield 9, 3) := by decide +kernel
theorem dX7_isBefore_55 : decode cX7_isBefore 55 = .ok (.iload_n 1, 1) := by decide +kernel
theorem dX7_isBefore_56 : decode cX7_isBefore 56 = .ok (.iaload, 1) := by decide +kernel
theorem dX7_isBefore_57 : decode cX7_isBefore 57 = .ok (.aload_n 0, 1) := by decide +kernel
theorem dX7_isBefore_58 : decode cX7_isBefore 58 = .ok (.getfield 9, 3) := by decide +kernel
theorem dX7_isBefore_61 : decode cX7_isBefore 61 = .ok (.iload_n 2, 1) := by decide +kernel
theorem dX7_isBefore_62 : decode cX7_isBefore 62 = .ok (.iaload, 1) := by decide +kernel
theorem dX7_isBefore_63 : decode cX7_isBefore 63 = .ok (.if_icmp .le 7, 3) := by decide +kernel
theorem dX7_isBefore_66 : decode cX7_isBefore 66 = .ok (.iconst 1, 1) := by decide +kernel
theorem dX7_isBefore_67 : decode cX7_isBefore 67 = .ok (.goto 4, 3) := by decide +kernel
theorem dX7_isBefore_70 : decode cX7_isBefore 70 = .ok (.iconst 0, 1) := by decide +kernel
theorem dX7_isBefore_71 : decode cX7_isBefore 71 = .ok (.ireturn, 1) := by decide +kernel
theorem dX7_isBefore_72 : decode cX7_isBefore 72 = .ok (.iload_n 1, 1) := by decide +kernel
theorem dX7_isBefore_73 : decode cX7_isBefore 73 = .ok (.iload_n 2, 1) := by decide +kernel
theorem dX7_isBefore_74 : decode cX7_isBefore 74 = .ok (.if_icmp .ge 7, 3) := by decide +kernel
theorem dX7_isBefore_77 : decode cX7_isBefore 77 = .ok (.iconst 1, 1) := by decide +kernel
theorem dX7_isBefore_78 : decode cX7_isBefore 78 = .ok (.goto 4, 3) := by decide +kernel
theorem dX7_isBefore_81 : decode cX7_isBefore 81 = .ok (.iconst 0, 1) := by decide +kernel
theorem dX7_isBefore_82 : decode cX7_isBefore 82 = .ok (.ireturn, 1) := by decide +kernel
theorem dX7_copyFrom_0 : decode cX7_copyFrom 0 = .ok (.aload_n 0, 1) := by decide +kernel
theorem dX7_copyFrom_1 : decode cX7_copyFrom 1 = .ok (.aload_n 1, 1) := by decide +kernel
theorem dX7_copyFrom_2 : decode cX7_copyFrom 2 = .ok (.getfield 28, 3) := by decide +kernel
theorem dX7_copyFrom_5 : decode cX7_copyFrom 5 = .ok (.putfield 28, 3) := by decide +kernel
theorem dX7_copyFrom_8 : decode cX7_copyFrom 8 = .ok (.iconst 0, 1) := by decide +kernel
theorem dX7_copyFrom_9 : decode cX7_copyFrom 9 = .ok (.istore_n 2, 1) := by decide +kernel
theorem dX7_copyFrom_10 : decode cX7_copyFrom 10 = .ok (.iload_n 2, 1) := by decide +kernel
theorem dX7_copyFrom_11 : decode cX7_copyFrom 11 = .ok (.bipush 8, 2) := by decide +kernel
theorem dX7_copyFrom_13 : decode cX7_copyFrom 13 = .ok (.if_icmp .ge 69, 3) := by decide +kernel
theorem dX7_copyFrom_16 : decode cX7_copyFrom 16 = .ok (.aload_n 0, 1) := by decide +kernel
theorem dX7_copyFrom_17 : decode cX7_copyFrom 17 = .ok (.getfield 9, 3) := by decide +kernel
theorem dX7_copyFrom_20 : decode cX7_copyFrom 20 = .ok (.iload_n 2, 1) := by decide +kernel
theorem dX7_copyFrom_21 : decode cX7_copyFrom 21 = .ok (.aload_n 1, 1) := by decide +kernel
theorem dX7_copyFrom_22 : decode cX7_copyFrom 22 = .ok (.getfield 9, 3) := by decide +kernel
theorem dX7_copyFrom_25 : decode cX7_copyFrom 25 = .ok (.iload_n 2, 1) := by decide +kernel
theorem dX7_copyFrom_26 : decode cX7_copyFrom 26 = .ok (.iaload, 1) := by decide +kernel
theorem dX7_copyFrom_27 : decode cX7_copyFrom 27 = .ok (.iastore, 1) := by decide +kernel
theorem dX7_copyFrom_28 : decode cX7_copyFrom 28 = .ok (.aload_n 0, 1) := by decide +kernel
theorem dX7_copyFrom_29 : decode cX7_copyFrom 29 = .ok (.getfield 15, 3) := by decide +kernel
theorem dX7_copyFrom_32 : decode cX7_copyFrom 32 = .ok (.iload_n 2, 1) := by decide +kernel
theorem dX7_copyFrom_33 : decode cX7_copyFrom 33 = .ok (.aload_n 1, 1) := by decide +kernel
theorem dX7_copyFrom_34 : decode cX7_copyFrom 34 = .ok (.getfield 15, 3) := by decide +kernel
theorem dX7_copyFrom_37 : decode cX7_copyFrom 37 = .ok (.iload_n 2, 1) := by decide +kernel
theorem dX7_copyFrom_38 : decode cX7_copyFrom 38 = .ok (.iaload, 1) := by decide +kernel
theorem dX7_copyFrom_39 : decode cX7_copyFrom 39 = .ok (.iastore, 1) := by decide +kernel
theorem dX7_copyFrom_40 : decode cX7_copyFrom 40 = .ok (.aload_n 0, 1) := by decide +kernel
theorem dX7_copyFrom_41 : decode cX7_copyFrom 41 = .ok (.getfield 18, 3) := by decide +kernel
theorem dX7_copyFrom_44 : decode cX7_copyFrom 44 = .ok (.iload_n 2, 1) := by decide +kernel
theorem dX7_copyFrom_45 : decode cX7_copyFrom 45 = .ok (.aload_n 1, 1) := by decide +kernel
theorem dX7_copyFrom_46 : decode cX7_copyFrom 46 = .ok (.getfield 18, 3) := by decide +kernel
theorem dX7_copyFrom_49 : decode cX7_copyFrom 49 = .ok (.iload_n 2, 1) := by decide +kernel
theorem dX7_copyFrom_50 : decode cX7_copyFrom 50 = .ok (.iaload, 1) := by decide +kernel
theorem dX7_copyFrom_51 : decode cX7_copyFrom 51 = .ok (.iastore, 1) := by decide +kernel
theorem dX7_copyFrom_52 : decode cX7_copyFrom 52 = .ok (.aload_n 0, 1) := by decide +kernel
theorem dX7_copyFrom_53 : decode cX7_copyFrom 53 = .ok (.getfield 21, 3) := by decide +kernel
theorem dX7_copyFrom_56 : decode cX7_copyFrom 56 = .ok (.iload_n 2, 1) := by decide +kernel
theorem dX7_copyFrom_57 : decode cX7_copyFrom 57 = .ok (.aload_n 1, 1) := by decide +kernel
theorem dX7_copyFrom_58 : decode cX7_copyFrom 58 = .ok (.getfield 21, 3) := by decide +kernel
theorem dX7_copyFrom_61 : decode cX7_copyFrom 61 = .ok (.iload_n 2, 1) := by decide +kernel
theorem dX7_copyFrom_62 : decode cX7_copyFrom 62 = .ok (.iaload, 1) := by decide +kernel
theorem dX7_copyFrom_63 : decode cX7_copyFrom 63 = .ok (.iastore, 1) := by decide +kernel
theorem dX7_copyFrom_64 : decode cX7_copyFrom 64 = .ok (.aload_n 0, 1) := by decide +kernel
theorem dX7_copyFrom_65 : decode cX7_copyFrom 65 = .ok (.getfield 24, 3) := by decide +kernel
theorem dX7_copyFrom_68 : decode cX7_copyFrom 68 = .ok (.iload_n 2, 1) := by decide +kernel
theorem dX7_copyFrom_69 : decode cX7_copyFrom 69 = .ok (.aload_n 1, 1) := by decide +kernel
theorem dX7_copyFrom_70 : decode cX7_copyFrom 70 = .ok (.getfield 24, 3) := by decide +kernel
theorem dX7_copyFrom_73 : decode cX7_copyFrom 73 = .ok (.iload_n 2, 1) := by decide +kernel
theorem dX7_copyFrom_74 : decode cX7_copyFrom 74 = .ok (.baload, 1) := by decide +kernel
theorem dX7_copyFrom_75 : decode cX7_copyFrom 75 = .ok (.bastore, 1) := by decide +kernel
theorem dX7_copyFrom_76 : decode cX7_copyFrom 76 = .ok (.iinc 2 1, 3) := by decide +kernel
theorem dX7_copyFrom_79 : decode cX7_copyFrom 79 = .ok (.goto (-69), 3) := by decide +kernel
theorem dX7_copyFrom_82 : decode cX7_copyFrom 82 = .ok (.return_, 1) := by decide +kernel
theorem dX8_init_0 : decode cX8_init 0 = .ok (.aload_n 0, 1) := by decide +kernel
theorem dX8_init_1 : decode cX8_init 1 = .ok (.invokespecial 3, 3) := by decide +kernel
theorem dX8_init_4 : decode cX8_init 4 = .ok (.aload_n 0, 1) := by decide +kernel
theorem dX8_init_5 : decode cX8_init 5 = .ok (.bipush 8, 2) := by decide +kernel
theorem dX8_init_7 : decode cX8_init 7 = .ok (.newarray .int, 2) := by decide +kernel
theorem dX8_init_9 : decode cX8_init 9 = .ok (.putfield 9, 3) := by decide +kernel
theorem dX8_init_12 : decode cX8_init 12 = .ok (.aload_n 0, 1) := by decide +kernel
theorem dX8_init_13 : decode cX8_init 13 = .ok (.bipush 8, 2) := by decide +kernel
theorem dX8_init_15 : decode cX8_init 15 = .ok (.newarray .int, 2) := by decide +kernel
theorem dX8_init_17 : decode cX8_init 17 = .ok (.putfield 15, 3) := by decide +kernel
theorem dX8_init_20 : decode cX8_init 20 = .ok (.return_, 1) := by decide +kernel
theorem dX8_positionOf_0 : decode cX8_positionOf 0 = .ok (.iconst 0, 1) := by decide +kernel
theorem dX8_positionOf_1 : decode cX8_positionOf 1 = .ok (.istore_n 2, 1) := by decide +kernel
theorem dX8_positionOf_2 : decode cX8_positionOf 2 = .ok (.iload_n 2, 1) := by decide +kernel
theorem dX8_positionOf_3 : decode cX8_positionOf 3 = .ok (.aload_n 0, 1) := by decide +kernel
theorem dX8_positionOf_4 : decode cX8_positionOf 4 = .ok (.getfield 18, 3) := by decide +kernel
theorem dX8_positionOf_7 : decode cX8_positionOf 7 = .ok (.if_icmp .ge 21, 3) := by decide +kernel
theorem dX8_positionOf_10 : decode cX8_positionOf 10 = .ok (.aload_n 0, 1) := by decide +kernel
theorem dX8_positionOf_11 : decode cX8_positionOf 11 = .ok (.getfield 9, 3) := by decide +kernel
theorem dX8_positionOf_14 : decode cX8_positionOf 14 = .ok (.iload_n 2, 1) := by decide +kernel
theorem dX8_positionOf_15 : decode cX8_positionOf 15 = .ok (.iaload, 1) := by decide +kernel
theorem dX8_positionOf_16 : decode cX8_positionOf 16 = .ok (.iload_n 1, 1) := by decide +kernel
theorem dX8_positionOf_17 : decode cX8_positionOf 17 = .ok (.if_icmp .ne 5, 3) := by decide +kernel
theorem dX8_positionOf_20 : decode cX8_positionOf 20 = .ok (.iload_n 2, 1) := by decide +kernel
theorem dX8_positionOf_21 : decode cX8_positionOf 21 = .ok (.ireturn, 1) := by decide +kernel
theorem dX8_positionOf_22 : decode cX8_positionOf 22 = .ok (.iinc 2 1, 3) := by decide +kernel
theorem dX8_positionOf_25 : decode cX8_positionOf 25 = .ok (.goto (-23), 3) := by decide +kernel
theorem dX8_positionOf_28 : decode cX8_positionOf 28 = .ok (.iconst (-1), 1) := by decide +kernel
theorem dX8_positionOf_29 : decode cX8_positionOf 29 = .ok (.ireturn, 1) := by decide +kernel
theorem dX8_append_0 : decode cX8_append 0 = .ok (.aload_n 0, 1) := by decide +kernel
theorem dX8_append_1 : decode cX8_append 1 = .ok (.getfield 18, 3) := by decide +kernel
theorem dX8_append_4 : decode cX8_append 4 = .ok (.bipush 8, 2) := by decide +kernel
theorem dX8_append_6 : decode cX8_append 6 = .ok (.if_icmp .lt 5, 3) := by decide +kernel
theorem dX8_append_9 : decode cX8_append 9 = .ok (.iconst (-1), 1) := by decide +kernel
theorem dX8_append_10 : decode cX8_append 10 = .ok (.ireturn, 1) := by decide +kernel
theorem dX8_append_11 : decode cX8_append 11 = .ok (.aload_n 0, 1) := by decide +kernel
theorem dX8_append_12 : decode cX8_append 12 = .ok (.getfield 18, 3) := by decide +kernel
theorem dX8_append_15 : decode cX8_append 15 = .ok (.istore_n 3, 1) := by decide +kernel
theorem dX8_append_16 : decode cX8_append 16 = .ok (.aload_n 0, 1) := by decide +kernel
theorem dX8_append_17 : decode cX8_append 17 = .ok (.dup, 1) := by decide +kernel
theorem dX8_append_18 : decode cX8_append 18 = .ok (.getfield 18, 3) := by decide +kernel
theorem dX8_append_21 : decode cX8_append 21 = .ok (.iconst 1, 1) := by decide +kernel
theorem dX8_append_22 : decode cX8_append 22 = .ok (.iadd, 1) := by decide +kernel
theorem dX8_append_23 : decode cX8_append 23 = .ok (.putfield 18, 3) := by decide +kernel
theorem dX8_append_26 : decode cX8_append 26 = .ok (.aload_n 0, 1) := by decide +kernel
theorem dX8_append_27 : decode cX8_append 27 = .ok (.getfield 9, 3) := by decide +kernel
theorem dX8_append_30 : decode cX8_append 30 = .ok (.iload_n 3, 1) := by decide +kernel
theorem dX8_append_31 : decode cX8_append 31 = .ok (.iload_n 1, 1) := by decide +kernel
theorem dX8_append_32 : decode cX8_append 32 = .ok (.iastore, 1) := by decide +kernel
theorem dX8_append_33 : decode cX8_append 33 = .ok (.aload_n 0, 1) := by decide +kernel
theorem dX8_append_34 : decode cX8_append 34 = .ok (.getfield 15, 3) := by decide +kernel
theorem dX8_append_37 : decode cX8_append 37 = .ok (.iload_n 3, 1) := by decide +kernel
theorem dX8_append_38 : decode cX8_append 38 = .ok (.iload_n 2, 1) := by decide +kernel
theorem dX8_append_39 : decode cX8_append 39 = .ok (.iastore, 1) := by decide +kernel
theorem dX8_append_40 : decode cX8_append 40 = .ok (.iload_n 3, 1) := by decide +kernel
theorem dX8_append_41 : decode cX8_append 41 = .ok (.ireturn, 1) := by decide +kernel
theorem dX8_removeFor_0 : decode cX8_removeFor 0 = .ok (.iconst 0, 1) := by decide +kernel
theorem dX8_removeFor_1 : decode cX8_removeFor 1 = .ok (.istore_n 2, 1) := by decide +kernel
theorem dX8_removeFor_2 : decode cX8_removeFor 2 = .ok (.iconst 0, 1) := by decide +kernel
theorem dX8_removeFor_3 : decode cX8_removeFor 3 = .ok (.istore_n 3, 1) := by decide +kernel
theorem dX8_removeFor_4 : decode cX8_removeFor 4 = .ok (.iload_n 3, 1) := by decide +kernel
theorem dX8_removeFor_5 : decode cX8_removeFor 5 = .ok (.aload_n 0, 1) := by decide +kernel
theorem dX8_removeFor_6 : decode cX8_removeFor 6 = .ok (.getfield 18, 3) := by decide +kernel
theorem dX8_removeFor_9 : decode cX8_removeFor 9 = .ok (.if_icmp .ge 46, 3) := by decide +kernel
theorem dX8_removeFor_12 : decode cX8_removeFor 12 = .ok (.aload_n 0, 1) := by decide +kernel
theorem dX8_removeFor_13 : decode cX8_removeFor 13 = .ok (.getfield 9, 3) := by decide +kernel
theorem dX8_removeFor_16 : decode cX8_removeFor 16 = .ok (.iload_n 3, 1) := by decide +kernel
theorem dX8_removeFor_17 : decode cX8_removeFor 17 = .ok (.iaload, 1) := by decide +kernel
theorem dX8_removeFor_18 : decode cX8_removeFor 18 = .ok (.iload_n 1, 1) := by decide +kernel
theorem dX8_removeFor_19 : decode cX8_removeFor 19 = .ok (.if_icmp .eq 30, 3) := by decide +kernel
theorem dX8_removeFor_22 : decode cX8_removeFor 22 = .ok (.aload_n 0, 1) := by decide +kernel
theorem dX8_removeFor_23 : decode cX8_removeFor 23 = .ok (.getfield 9, 3) := by decide +kernel
theorem dX8_removeFor_26 : decode cX8_removeFor 26 = .ok (.iload_n 2, 1) := by decide +kernel
theorem dX8_removeFor_27 : decode cX8_removeFor 27 = .ok (.aload_n 0, 1) := by decide +kernel
theorem dX8_removeFor_28 : decode cX8_removeFor 28 = .ok (.getfield 9, 3) := by decide +kernel
theorem dX8_removeFor_31 : decode cX8_removeFor 31 = .ok (.iload_n 3, 1) := by decide +kernel
theorem dX8_removeFor_32 : decode cX8_removeFor 32 = .ok (.iaload, 1) := by decide +kernel
theorem dX8_removeFor_33 : decode cX8_removeFor 33 = .ok (.iastore, 1) := by decide +kernel
theorem dX8_removeFor_34 : decode cX8_removeFor 34 = .ok (.aload_n 0, 1) := by decide +kernel
theorem dX8_removeFor_35 : decode cX8_removeFor 35 = .ok (.getfield 15, 3) := by decide +kernel
theorem dX8_removeFor_38 : decode cX8_removeFor 38 = .ok (.iload_n 2, 1) := by decide +kernel
theorem dX8_removeFor_39 : decode cX8_removeFor 39 = .ok (.aload_n 0, 1) := by decide +kernel
theorem dX8_removeFor_40 : decode cX8_removeFor 40 = .ok (.getfield 15, 3) := by decide +kernel
theorem dX8_removeFor_43 : decode cX8_removeFor 43 = .ok (.iload_n 3, 1) := by decide +kernel
theorem dX8_removeFor_44 : decode cX8_removeFor 44 = .ok (.iaload, 1) := by decide +kernel
theorem dX8_removeFor_45 : decode cX8_removeFor 45 = .ok (.iastore, 1) := by decide +kernel
theorem dX8_removeFor_46 : decode cX8_removeFor 46 = .ok (.iinc 2 1, 3) := by decide +kernel
theorem dX8_removeFor_49 : decode cX8_removeFor 49 = .ok (.iinc 3 1, 3) := by decide +kernel
theorem dX8_removeFor_52 : decode cX8_removeFor 52 = .ok (.goto (-48), 3) := by decide +kernel
theorem dX8_removeFor_55 : decode cX8_removeFor 55 = .ok (.aload_n 0, 1) := by decide +kernel
theorem dX8_removeFor_56 : decode cX8_removeFor 56 = .ok (.iload_n 2, 1) := by decide +kernel
theorem dX8_removeFor_57 : decode cX8_removeFor 57 = .ok (.putfield 18, 3) := by decide +kernel
theorem dX8_removeFor_60 : decode cX8_removeFor 60 = .ok (.return_, 1) := by decide +kernel
theorem dX8_clear_0 : decode cX8_clear 0 = .ok (.aload_n 0, 1) := by decide +kernel
theorem dX8_clear_1 : decode cX8_clear 1 = .ok (.iconst 0, 1) := by decide +kernel
theorem dX8_clear_2 : decode cX8_clear 2 = .ok (.putfield 18, 3) := by decide +kernel
theorem dX8_clear_5 : decode cX8_clear 5 = .ok (.return_, 1) := by decide +kernel
theorem dX8_copyFrom_0 : decode cX8_copyFrom 0 = .ok (.aload_n 0, 1) := by decide +kernel
theorem dX8_copyFrom_1 : decode cX8_copyFrom 1 = .ok (.aload_n 1, 1) := by decide +kernel
theorem dX8_copyFrom_2 : decode cX8_copyFrom 2 = .ok (.getfield 18, 3) := by decide +kernel
theorem dX8_copyFrom_5 : decode cX8_copyFrom 5 = .ok (.putfield 18, 3) := by decide +kernel
theorem dX8_copyFrom_8 : decode cX8_copyFrom 8 = .ok (.iconst 0, 1) := by decide +kernel
theorem dX8_copyFrom_9 : decode cX8_copyFrom 9 = .ok (.istore_n 2, 1) := by decide +kernel
theorem dX8_copyFrom_10 : decode cX8_copyFrom 10 = .ok (.iload_n 2, 1) := by decide +kernel
theorem dX8_copyFrom_11 : decode cX8_copyFrom 11 = .ok (.bipush 8, 2) := by decide +kernel
theorem dX8_copyFrom_13 : decode cX8_copyFrom 13 = .ok (.if_icmp .ge 33, 3) := by decide +kernel
theorem dX8_copyFrom_16 : decode cX8_copyFrom 16 = .ok (.aload_n 0, 1) := by decide +kernel
theorem dX8_copyFrom_17 : decode cX8_copyFrom 17 = .ok (.getfield 9, 3) := by decide +kernel
theorem dX8_copyFrom_20 : decode cX8_copyFrom 20 = .ok (.iload_n 2, 1) := by decide +kernel
theorem dX8_copyFrom_21 : decode cX8_copyFrom 21 = .ok (.aload_n 1, 1) := by decide +kernel
theorem dX8_copyFrom_22 : decode cX8_copyFrom 22 = .ok (.getfield 9, 3) := by decide +kernel
theorem dX8_copyFrom_25 : decode cX8_copyFrom 25 = .ok (.iload_n 2, 1) := by decide +kernel
theorem dX8_copyFrom_26 : decode cX8_copyFrom 26 = .ok (.iaload, 1) := by decide +kernel
theorem dX8_copyFrom_27 : decode cX8_copyFrom 27 = .ok (.iastore, 1) := by decide +kernel
theorem dX8_copyFrom_28 : decode cX8_copyFrom 28 = .ok (.aload_n 0, 1) := by decide +kernel
theorem dX8_copyFrom_29 : decode cX8_copyFrom 29 = .ok (.getfield 15, 3) := by decide +kernel
theorem dX8_copyFrom_32 : decode cX8_copyFrom 32 = .ok (.iload_n 2, 1) := by decide +kernel
theorem dX8_copyFrom_33 : decode cX8_copyFrom 33 = .ok (.aload_n 1, 1) := by decide +kernel
theorem dX8_copyFrom_34 : decode cX8_copyFrom 34 = .ok (.getfield 15, 3) := by decide +kernel
theorem dX8_copyFrom_37 : decode cX8_copyFrom 37 = .ok (.iload_n 2, 1) := by decide +kernel
theorem dX8_copyFrom_38 : decode cX8_copyFrom 38 = .ok (.iaload, 1) := by decide +kernel
theorem dX8_copyFrom_39 : decode cX8_copyFrom 39 = .ok (.iastore, 1) := by decide +kernel
theorem dX8_copyFrom_40 : decode cX8_copyFrom 40 = .ok (.iinc 2 1, 3) := by decide +kernel
theorem dX8_copyFrom_43 : decode cX8_copyFrom 43 = .ok (.goto (-33), 3) := by decide +kernel
theorem dX8_copyFrom_46 : decode cX8_copyFrom 46 = .ok (.return_, 1) := by decide +kernel
theorem dX9_init_0 : decode cX9_init 0 = .ok (.aload_n 0, 1) := by decide +kernel
theorem dX9_init_1 : decode cX9_init 1 = .ok (.invokespecial 3, 3) := by decide +kernel
theorem dX9_init_4 : decode cX9_init 4 = .ok (.aload_n 0, 1) := by decide +kernel
theorem dX9_init_5 : decode cX9_init 5 = .ok (.bipush 6, 2) := by decide +kernel
theorem dX9_init_7 : decode cX9_init 7 = .ok (.newarray .int, 2) := by decide +kernel
theorem dX9_init_9 : decode cX9_init 9 = .ok (.putfield 9, 3) := by decide +kernel
theorem dX9_init_12 : decode cX9_init 12 = .ok (.aload_n 0, 1) := by decide +kernel
theorem dX9_init_13 : decode cX9_init 13 = .ok (.bipush 6, 2) := by decide +kernel
theorem dX9_init_15 : decode cX9_init 15 = .ok (.newarray .int, 2) := by decide +kernel
theorem dX9_init_17 : decode cX9_init 17 = .ok (.putfield 15, 3) := by decide +kernel
theorem dX9_init_20 : decode cX9_init 20 = .ok (.aload_n 0, 1) := by decide +kernel
theorem dX9_init_21 : decode cX9_init 21 = .ok (.bipush 6, 2) := by decide +kernel
theorem dX9_init_23 : decode cX9_init 23 = .ok (.newarray .int, 2) := by decide +kernel
theorem dX9_init_25 : decode cX9_init 25 = .ok (.putfield 18, 3) := by decide +kernel
theorem dX9_init_28 : decode cX9_init 28 = .ok (.return_, 1) := by decide +kernel
theorem dX9_exists_0 : decode cX9_exists 0 = .ok (.iload_n 1, 1) := by decide +kernel
theorem dX9_exists_1 : decode cX9_exists 1 = .ok (.ifCond .lt 15, 3) := by decide +kernel
theorem dX9_exists_4 : decode cX9_exists 4 = .ok (.iload_n 1, 1) := by decide +kernel
theorem dX9_exists_5 : decode cX9_exists 5 = .ok (.aload_n 0, 1) := by decide +kernel
theorem dX9_exists_6 : decode cX9_exists 6 = .ok (.getfield 21, 3) := by decide +kernel
theorem dX9_exists_9 : decode cX9_exists 9 = .ok (.if_icmp .ge 7, 3) := by decide +kernel
theorem dX9_exists_12 : decode cX9_exists 12 = .ok (.iconst 1, 1) := by decide +kernel
theorem dX9_exists_13 : decode cX9_exists 13 = .ok (.goto 4, 3) := by decide +kernel
theorem dX9_exists_16 : decode cX9_exists 16 = .ok (.iconst 0, 1) := by decide +kernel
theorem dX9_exists_17 : decode cX9_exists 17 = .ok (.ireturn, 1) := by decide +kernel
theorem dX9_append_0 : decode cX9_append 0 = .ok (.aload_n 0, 1) := by decide +kernel
theorem dX9_append_1 : decode cX9_append 1 = .ok (.getfield 21, 3) := by decide +kernel
theorem dX9_append_4 : decode cX9_append 4 = .ok (.bipush 6, 2) := by decide +kernel
theorem dX9_append_6 : decode cX9_append 6 = .ok (.if_icmp .lt 5, 3) := by decide +kernel
theorem dX9_append_9 : decode cX9_append 9 = .ok (.iconst (-1), 1) := by decide +kernel
theorem dX9_append_10 : decode cX9_append 10 = .ok (.ireturn, 1) := by decide +kernel
theorem dX9_append_11 : decode cX9_append 11 = .ok (.aload_n 0, 1) := by decide +kernel
theorem dX9_append_12 : decode cX9_append 12 = .ok (.getfield 21, 3) := by decide +kernel
theorem dX9_append_15 : decode cX9_append 15 = .ok (.istore_n 1, 1) := by decide +kernel
theorem dX9_append_16 : decode cX9_append 16 = .ok (.aload_n 0, 1) := by decide +kernel
theorem dX9_append_17 : decode cX9_append 17 = .ok (.dup, 1) := by decide +kernel
theorem dX9_append_18 : decode cX9_append 18 = .ok (.getfield 21, 3) := by decide +kernel
theorem dX9_append_21 : decode cX9_append 21 = .ok (.iconst 1, 1) := by decide +kernel
theorem dX9_append_22 : decode cX9_append 22 = .ok (.iadd, 1) := by decide +kernel
theorem dX9_append_23 : decode cX9_append 23 = .ok (.putfield 21, 3) := by decide +kernel
theorem dX9_append_26 : decode cX9_append 26 = .ok (.aload_n 0, 1) := by decide +kernel
theorem dX9_append_27 : decode cX9_append 27 = .ok (.getfield 9, 3) := by decide +kernel
theorem dX9_append_30 : decode cX9_append 30 = .ok (.iload_n 1, 1) := by decide +kernel
theorem dX9_append_31 : decode cX9_append 31 = .ok (.bipush 100, 2) := by decide +kernel
theorem dX9_append_33 : decode cX9_append 33 = .ok (.iastore, 1) := by decide +kernel
theorem dX9_append_34 : decode cX9_append 34 = .ok (.aload_n 0, 1) := by decide +kernel
theorem dX9_append_35 : decode cX9_append 35 = .ok (.getfield 15, 3) := by decide +kernel
theorem dX9_append_38 : decode cX9_append 38 = .ok (.iload_n 1, 1) := by decide +kernel
theorem dX9_append_39 : decode cX9_append 39 = .ok (.iconst 0, 1) := by decide +kernel
theorem dX9_append_40 : decode cX9_append 40 = .ok (.iastore, 1) := by decide +kernel
theorem dX9_append_41 : decode cX9_append 41 = .ok (.aload_n 0, 1) := by decide +kernel
theorem dX9_append_42 : decode cX9_append 42 = .ok (.getfield 18, 3) := by decide +kernel
theorem dX9_append_45 : decode cX9_append 45 = .ok (.iload_n 1, 1) := by decide +kernel
theorem dX9_append_46 : decode cX9_append 46 = .ok (.iconst 0, 1) := by decide +kernel
theorem dX9_append_47 : decode cX9_append 47 = .ok (.iastore, 1) := by decide +kernel
theorem dX9_append_48 : decode cX9_append 48 = .ok (.iload_n 1, 1) := by decide +kernel
theorem dX9_append_49 : decode cX9_append 49 = .ok (.ireturn, 1) := by decide +kernel
theorem dX9_canPay_0 : decode cX9_canPay 0 = .ok (.iload_n 1, 1) := by decide +kernel
theorem dX9_canPay_1 : decode cX9_canPay 1 = .ok (.ifCond .lt 25, 3) := by decide +kernel
theorem dX9_canPay_4 : decode cX9_canPay 4 = .ok (.iload_n 1, 1) := by decide +kernel
theorem dX9_canPay_5 : decode cX9_canPay 5 = .ok (.aload_n 0, 1) := by decide +kernel
theorem dX9_canPay_6 : decode cX9_canPay 6 = .ok (.getfield 21, 3) := by decide +kernel
theorem dX9_canPay_9 : decode cX9_canPay 9 = .ok (.if_icmp .ge 17, 3) := by decide +kernel
theorem dX9_canPay_12 : decode cX9_canPay 12 = .ok (.aload_n 0, 1) := by decide +kernel
theorem dX9_canPay_13 : decode cX9_canPay 13 = .ok (.getfield 9, 3) := by decide +kernel
theorem dX9_canPay_16 : decode cX9_canPay 16 = .ok (.iload_n 1, 1) := by decide +kernel
theorem dX9_canPay_17 : decode cX9_canPay 17 = .ok (.iaload, 1) := by decide +kernel
theorem dX9_canPay_18 : decode cX9_canPay 18 = .ok (.iload_n 2, 1) := by decide +kernel
theorem dX9_canPay_19 : decode cX9_canPay 19 = .ok (.if_icmp .lt 7, 3) := by decide +kernel
theorem dX9_canPay_22 : decode cX9_canPay 22 = .ok (.iconst 1, 1) := by decide +kernel
theorem dX9_canPay_23 : decode cX9_canPay 23 = .ok (.goto 4, 3) := by decide +kernel
theorem dX9_canPay_26 : decode cX9_canPay 26 = .ok (.iconst 0, 1) := by decide +kernel
theorem dX9_canPay_27 : decode cX9_canPay 27 = .ok (.ireturn, 1) := by decide +kernel
theorem dX9_sumOfCoins_0 : decode cX9_sumOfCoins 0 = .ok (.iconst 0, 1) := by decide +kernel
theorem dX9_sumOfCoins_1 : decode cX9_sumOfCoins 1 = .ok (.istore_n 1, 1) := by decide +kernel
theorem dX9_sumOfCoins_2 : decode cX9_sumOfCoins 2 = .ok (.iconst 0, 1) := by decide +kernel
theorem dX9_sumOfCoins_3 : decode cX9_sumOfCoins 3 = .ok (.istore_n 2, 1) := by decide +kernel
theorem dX9_sumOfCoins_4 : decode cX9_sumOfCoins 4 = .ok (.iload_n 2, 1) := by decide +kernel
theorem dX9_sumOfCoins_5 : decode cX9_sumOfCoins 5 = .ok (.aload_n 0, 1) := by decide +kernel
theorem dX9_sumOfCoins_6 : decode cX9_sumOfCoins 6 = .ok (.getfield 21, 3) := by decide +kernel
theorem dX9_sumOfCoins_9 : decode cX9_sumOfCoins 9 = .ok (.if_icmp .ge 18, 3) := by decide +kernel
theorem dX9_sumOfCoins_12 : decode cX9_sumOfCoins 12 = .ok (.iload_n 1, 1) := by decide +kernel
theorem dX9_sumOfCoins_13 : decode cX9_sumOfCoins 13 = .ok (.aload_n 0, 1) := by decide +kernel
theorem dX9_sumOfCoins_14 : decode cX9_sumOfCoins 14 = .ok (.getfield 9, 3) := by decide +kernel
theorem dX9_sumOfCoins_17 : decode cX9_sumOfCoins 17 = .ok (.iload_n 2, 1) := by decide +kernel
theorem dX9_sumOfCoins_18 : decode cX9_sumOfCoins 18 = .ok (.iaload, 1) := by decide +kernel
theorem dX9_sumOfCoins_19 : decode cX9_sumOfCoins 19 = .ok (.iadd, 1) := by decide +kernel
theorem dX9_sumOfCoins_20 : decode cX9_sumOfCoins 20 = .ok (.istore_n 1, 1) := by decide +kernel
theorem dX9_sumOfCoins_21 : decode cX9_sumOfCoins 21 = .ok (.iinc 2 1, 3) := by decide +kernel
theorem dX9_sumOfCoins_24 : decode cX9_sumOfCoins 24 = .ok (.goto (-20), 3) := by decide +kernel
theorem dX9_sumOfCoins_27 : decode cX9_sumOfCoins 27 = .ok (.iload_n 1, 1) := by decide +kernel
theorem dX9_sumOfCoins_28 : decode cX9_sumOfCoins 28 = .ok (.ireturn, 1) := by decide +kernel
theorem dX9_atRank_0 : decode cX9_atRank 0 = .ok (.iconst 0, 1) := by decide +kernel
theorem dX9_atRank_1 : decode cX9_atRank 1 = .ok (.istore_n 2, 1) := by decide +kernel
theorem dX9_atRank_2 : decode cX9_atRank 2 = .ok (.iload_n 2, 1) := by decide +kernel
theorem dX9_atRank_3 : decode cX9_atRank 3 = .ok (.aload_n 0, 1) := by decide +kernel
theorem dX9_atRank_4 : decode cX9_atRank 4 = .ok (.getfield 21, 3) := by decide +kernel
theorem dX9_atRank_7 : decode cX9_atRank 7 = .ok (.if_icmp .ge 20, 3) := by decide +kernel
theorem dX9_atRank_10 : decode cX9_atRank 10 = .ok (.aload_n 0, 1) := by decide +kernel
theorem dX9_atRank_11 : decode cX9_atRank 11 = .ok (.iload_n 2, 1) := by decide +kernel
theorem dX9_atRank_12 : decode cX9_atRank 12 = .ok (.invokevirtual 25, 3) := by decide +kernel
theorem dX9_atRank_15 : decode cX9_atRank 15 = .ok (.iload_n 1, 1) := by decide +kernel
theorem dX9_atRank_16 : decode cX9_atRank 16 = .ok (.if_icmp .ne 5, 3) := by decide +kernel
theorem dX9_atRank_19 : decode cX9_atRank 19 = .ok (.iload_n 2, 1) := by decide +kernel
theorem dX9_atRank_20 : decode cX9_atRank 20 = .ok (.ireturn, 1) := by decide +kernel
theorem dX9_atRank_21 : decode cX9_atRank 21 = .ok (.iinc 2 1, 3) := by decide +kernel
theorem dX9_atRank_24 : decode cX9_atRank 24 = .ok (.goto (-22), 3) := by decide +kernel
theorem dX9_atRank_27 : decode cX9_atRank 27 = .ok (.iconst (-1), 1) := by decide +kernel
theorem dX9_atRank_28 : decode cX9_atRank 28 = .ok (.ireturn, 1) := by decide +kernel
theorem dX9_rankOf_0 : decode cX9_rankOf 0 = .ok (.iconst 0, 1) := by decide +kernel
theorem dX9_rankOf_1 : decode cX9_rankOf 1 = .ok (.istore_n 2, 1) := by decide +kernel
theorem dX9_rankOf_2 : decode cX9_rankOf 2 = .ok (.iconst 0, 1) := by decide +kernel
theorem dX9_rankOf_3 : decode cX9_rankOf 3 = .ok (.istore_n 3, 1) := by decide +kernel
theorem dX9_rankOf_4 : decode cX9_rankOf 4 = .ok (.iload_n 3, 1) := by decide +kernel
theorem dX9_rankOf_5 : decode cX9_rankOf 5 = .ok (.aload_n 0, 1) := by decide +kernel
theorem dX9_rankOf_6 : decode cX9_rankOf 6 = .ok (.getfield 21, 3) := by decide +kernel
theorem dX9_rankOf_9 : decode cX9_rankOf 9 = .ok (.if_icmp .ge 21, 3) := by decide +kernel
theorem dX9_rankOf_12 : decode cX9_rankOf 12 = .ok (.aload_n 0, 1) := by decide +kernel
theorem dX9_rankOf_13 : decode cX9_rankOf 13 = .ok (.iload_n 3, 1) := by decide +kernel
theorem dX9_rankOf_14 : decode cX9_rankOf 14 = .ok (.iload_n 1, 1) := by decide +kernel
theorem dX9_rankOf_15 : decode cX9_rankOf 15 = .ok (.invokevirtual 29, 3) := by decide +kernel
theorem dX9_rankOf_18 : decode cX9_rankOf 18 = .ok (.ifCond .eq 6, 3) := by decide +kernel
theorem dX9_rankOf_21 : decode cX9_rankOf 21 = .ok (.iinc 2 1, 3) := by decide +kernel
theorem dX9_rankOf_24 : decode cX9_rankOf 24 = .ok (.iinc 3 1, 3) := by decide +kernel
theorem dX9_rankOf_27 : decode cX9_rankOf 27 = .ok (.goto (-23), 3) := by decide +kernel
theorem dX9_rankOf_30 : decode cX9_rankOf 30 = .ok (.iload_n 2, 1) := by decide +kernel
theorem dX9_rankOf_31 : decode cX9_rankOf 31 = .ok (.ireturn, 1) := by decide +kernel
theorem dX9_isBefore_0 : decode cX9_isBefore 0 = .ok (.aload_n 0, 1) := by decide +kernel
theorem dX9_isBefore_1 : decode cX9_isBefore 1 = .ok (.getfield 15, 3) := by decide +kernel
theorem dX9_isBefore_4 : decode cX9_isBefore 4 = .ok (.iload_n 1, 1) := by decide +kernel
theorem dX9_isBefore_5 : decode cX9_isBefore 5 = .ok (.iaload, 1) := by decide +kernel
theorem dX9_isBefore_6 : decode cX9_isBefore 6 = .ok (.aload_n 0, 1) := by decide +kernel
theorem dX9_isBefore_7 : decode cX9_isBefore 7 = .ok (.getfield 15, 3) := by decide +kernel
theorem dX9_isBefore_10 : decode cX9_isBefore 10 = .ok (.iload_n 2, 1) := by decide +kernel
theorem dX9_isBefore_11 : decode cX9_isBefore 11 = .ok (.iaload, 1) := by decide +kernel
theorem dX9_isBefore_12 : decode cX9_isBefore 12 = .ok (.if_icmp .eq 24, 3) := by decide +kernel
theorem dX9_isBefore_15 : decode cX9_isBefore 15 = .ok (.aload_n 0, 1) := by decide +kernel
theorem dX9_isBefore_16 : decode cX9_isBefore 16 = .ok (.getfield 15, 3) := by decide +kernel
theorem dX9_isBefore_19 : decode cX9_isBefore 19 = .ok (.iload_n 1, 1) := by decide +kernel
theorem dX9_isBefore_20 : decode cX9_isBefore 20 = .ok (.iaload, 1) := by decide +kernel
theorem dX9_isBefore_21 : decode cX9_isBefore 21 = .ok (.aload_n 0, 1) := by decide +kernel
theorem dX9_isBefore_22 : decode cX9_isBefore 22 = .ok (.getfield 15, 3) := by decide +kernel
theorem dX9_isBefore_25 : decode cX9_isBefore 25 = .ok (.iload_n 2, 1) := by decide +kernel
theorem dX9_isBefore_26 : decode cX9_isBefore 26 = .ok (.iaload, 1) := by decide +kernel
theorem dX9_isBefore_27 : decode cX9_isBefore 27 = .ok (.if_icmp .le 7, 3) := by decide +kernel
theorem dX9_isBefore_30 : decode cX9_isBefore 30 = .ok (.iconst 1, 1) := by decide +kernel
theorem dX9_isBefore_31 : decode cX9_isBefore 31 = .ok (.goto 4, 3) := by decide +kernel
theorem dX9_isBefore_34 : decode cX9_isBefore 34 = .ok (.iconst 0, 1) := by decide +kernel
theorem dX9_isBefore_35 : decode cX9_isBefore 35 = .ok (.ireturn, 1) := by decide +kernel
theorem dX9_isBefore_36 : decode cX9_isBefore 36 = .ok (.aload_n 0, 1) := by decide +kernel
theorem dX9_isBefore_37 : decode cX9_isBefore 37 = .ok (.getfield 9, 3) := by decide +kernel
theorem dX9_isBefore_40 : decode cX9_isBefore 40 = .ok (.iload_n 1, 1) := by decide +kernel
theorem dX9_isBefore_41 : decode cX9_isBefore 41 = .ok (.iaload, 1) := by decide +kernel
theorem dX9_isBefore_42 : decode cX9_isBefore 42 = .ok (.aload_n 0, 1) := by decide +kernel
theorem dX9_isBefore_43 : decode cX9_isBefore 43 = .ok (.getfield 9, 3) := by decide +kernel
theorem dX9_isBefore_46 : decode cX9_isBefore 46 = .ok (.iload_n 2, 1) := by decide +kernel
theorem dX9_isBefore_47 : decode cX9_isBefore 47 = .ok (.iaload, 1) := by decide +kernel
theorem dX9_isBefore_48 : decode cX9_isBefore 48 = .ok (.if_icmp .eq 24, 3) := by decide +kernel
theorem dX9_isBefore_51 : decode cX9_isBefore 51 = .ok (.aload_n 0, 1) := by decide +kernel
theorem dX9_isBefore_52 : decode cX9_isBefore 52 = .ok (.getfield 9, 3) := by decide +kernel
theorem dX9_isBefore_55 : decode cX9_isBefore 55 = .ok (.iload_n 1, 1) := by decide +kernel
theorem dX9_isBefore_56 : decode cX9_isBefore 56 = .ok (.iaload, 1) := by decide +kernel
theorem dX9_isBefore_57 : decode cX9_isBefore 57 = .ok (.aload_n 0, 1) := by decide +kernel
theorem dX9_isBefore_58 : decode cX9_isBefore 58 = .ok (.getfield 9, 3) := by decide +kernel
theorem dX9_isBefore_61 : decode cX9_isBefore 61 = .ok (.iload_n 2, 1) := by decide +kernel
theorem dX9_isBefore_62 : decode cX9_isBefore 62 = .ok (.iaload, 1) := by decide +kernel
theorem dX9_isBefore_63 : decode cX9_isBefore 63 = .ok (.if_icmp .ge 7, 3) := by decide +kernel
theorem dX9_isBefore_66 : decode cX9_isBefore 66 = .ok (.iconst 1, 1) := by decide +kernel
theorem dX9_isBefore_67 : decode cX9_isBefore 67 = .ok (.goto 4, 3) := by decide +kernel
theorem dX9_isBefore_70 : decode cX9_isBefore 70 = .ok (.iconst 0, 1) := by decide +kernel
theorem dX9_isBefore_71 : decode cX9_isBefore 71 = .ok (.ireturn, 1) := by decide +kernel
theorem dX9_isBefore_72 : decode cX9_isBefore 72 = .ok (.iload_n 1, 1) := by decide +kernel
theorem dX9_isBefore_73 : decode cX9_isBefore 73 = .ok (.iload_n 2, 1) := by decide +kernel
theorem dX9_isBefore_74 : decode cX9_isBefore 74 = .ok (.if_icmp .ge 7, 3) := by decide +kernel
theorem dX9_isBefore_77 : decode cX9_isBefore 77 = .ok (.iconst 1, 1) := by decide +kernel
theorem dX9_isBefore_78 : decode cX9_isBefore 78 = .ok (.goto 4, 3) := by decide +kernel
theorem dX9_isBefore_81 : decode cX9_isBefore 81 = .ok (.iconst 0, 1) := by decide +kernel
theorem dX9_isBefore_82 : decode cX9_isBefore 82 = .ok (.ireturn, 1) := by decide +kernel
theorem dX9_copyFrom_0 : decode cX9_copyFrom 0 = .ok (.aload_n 0, 1) := by decide +kernel
theorem dX9_copyFrom_1 : decode cX9_copyFrom 1 = .ok (.aload_n 1, 1) := by decide +kernel
theorem dX9_copyFrom_2 : decode cX9_copyFrom 2 = .ok (.getfield 21, 3) := by decide +kernel
theorem dX9_copyFrom_5 : decode cX9_copyFrom 5 = .ok (.putfield 21, 3) := by decide +kernel
theorem dX9_copyFrom_8 : decode cX9_copyFrom 8 = .ok (.iconst 0, 1) := by decide +kernel
theorem dX9_copyFrom_9 : decode cX9_copyFrom 9 = .ok (.istore_n 2, 1) := by decide +kernel
theorem dX9_copyFrom_10 : decode cX9_copyFrom 10 = .ok (.iload_n 2, 1) := by decide +kernel
theorem dX9_copyFrom_11 : decode cX9_copyFrom 11 = .ok (.bipush 6, 2) := by decide +kernel
theorem dX9_copyFrom_13 : decode cX9_copyFrom 13 = .ok (.if_icmp .ge 45, 3) := by decide +kernel
theorem dX9_copyFrom_16 : decode cX9_copyFrom 16 = .ok (.aload_n 0, 1) := by decide +kernel
theorem dX9_copyFrom_17 : decode cX9_copyFrom 17 = .ok (.getfield 9, 3) := by decide +kernel
theorem dX9_copyFrom_20 : decode cX9_copyFrom 20 = .ok (.iload_n 2, 1) := by decide +kernel
theorem dX9_copyFrom_21 : decode cX9_copyFrom 21 = .ok (.aload_n 1, 1) := by decide +kernel
theorem dX9_copyFrom_22 : decode cX9_copyFrom 22 = .ok (.getfield 9, 3) := by decide +kernel
theorem dX9_copyFrom_25 : decode cX9_copyFrom 25 = .ok (.iload_n 2, 1) := by decide +kernel
theorem dX9_copyFrom_26 : decode cX9_copyFrom 26 = .ok (.iaload, 1) := by decide +kernel
theorem dX9_copyFrom_27 : decode cX9_copyFrom 27 = .ok (.iastore, 1) := by decide +kernel
theorem dX9_copyFrom_28 : decode cX9_copyFrom 28 = .ok (.aload_n 0, 1) := by decide +kernel
theorem dX9_copyFrom_29 : decode cX9_copyFrom 29 = .ok (.getfield 15, 3) := by decide +kernel
theorem dX9_copyFrom_32 : decode cX9_copyFrom 32 = .ok (.iload_n 2, 1) := by decide +kernel
theorem dX9_copyFrom_33 : decode cX9_copyFrom 33 = .ok (.aload_n 1, 1) := by decide +kernel
theorem dX9_copyFrom_34 : decode cX9_copyFrom 34 = .ok (.getfield 15, 3) := by decide +kernel
theorem dX9_copyFrom_37 : decode cX9_copyFrom 37 = .ok (.iload_n 2, 1) := by decide +kernel
theorem dX9_copyFrom_38 : decode cX9_copyFrom 38 = .ok (.iaload, 1) := by decide +kernel
theorem dX9_copyFrom_39 : decode cX9_copyFrom 39 = .ok (.iastore, 1) := by decide +kernel
theorem dX9_copyFrom_40 : decode cX9_copyFrom 40 = .ok (.aload_n 0, 1) := by decide +kernel
theorem dX9_copyFrom_41 : decode cX9_copyFrom 41 = .ok (.getfield 18, 3) := by decide +kernel
theorem dX9_copyFrom_44 : decode cX9_copyFrom 44 = .ok (.iload_n 2, 1) := by decide +kernel
theorem dX9_copyFrom_45 : decode cX9_copyFrom 45 = .ok (.aload_n 1, 1) := by decide +kernel
theorem dX9_copyFrom_46 : decode cX9_copyFrom 46 = .ok (.getfield 18, 3) := by decide +kernel
theorem dX9_copyFrom_49 : decode cX9_copyFrom 49 = .ok (.iload_n 2, 1) := by decide +kernel
theorem dX9_copyFrom_50 : decode cX9_copyFrom 50 = .ok (.iaload, 1) := by decide +kernel
theorem dX9_copyFrom_51 : decode cX9_copyFrom 51 = .ok (.iastore, 1) := by decide +kernel
theorem dX9_copyFrom_52 : decode cX9_copyFrom 52 = .ok (.iinc 2 1, 3) := by decide +kernel
theorem dX9_copyFrom_55 : decode cX9_copyFrom 55 = .ok (.goto (-45), 3) := by decide +kernel
theorem dX9_copyFrom_58 : decode cX9_copyFrom 58 = .ok (.return_, 1) := by decide +kernel
theorem dX10_init_0 : decode cX10_init 0 = .ok (.aload_n 0, 1) := by decide +kernel
theorem dX10_init_1 : decode cX10_init 1 = .ok (.invokespecial 3, 3) := by decide +kernel
theorem dX10_init_4 : decode cX10_init 4 = .ok (.aload_n 0, 1) := by decide +kernel
theorem dX10_init_5 : decode cX10_init 5 = .ok (.new 9, 3) := by decide +kernel
theorem dX10_init_8 : decode cX10_init 8 = .ok (.dup, 1) := by decide +kernel
theorem dX10_init_9 : decode cX10_init 9 = .ok (.invokespecial 11, 3) := by decide +kernel
theorem dX10_init_12 : decode cX10_init 12 = .ok (.putfield 12, 3) := by decide +kernel
theorem dX10_init_15 : decode cX10_init 15 = .ok (.aload_n 0, 1) := by decide +kernel
theorem dX10_init_16 : decode cX10_init 16 = .ok (.new 18, 3) := by decide +kernel
theorem dX10_init_19 : decode cX10_init 19 = .ok (.dup, 1) := by decide +kernel
theorem dX10_init_20 : decode cX10_init 20 = .ok (.invokespecial 20, 3) := by decide +kernel
theorem dX10_init_23 : decode cX10_init 23 = .ok (.putfield 21, 3) := by decide +kernel
theorem dX10_init_26 : decode cX10_init 26 = .ok (.aload_n 0, 1) := by decide +kernel
theorem dX10_init_27 : decode cX10_init 27 = .ok (.new 25, 3) := by decide +kernel
theorem dX10_init_30 : decode cX10_init 30 = .ok (.dup, 1) := by decide +kernel
theorem dX10_init_31 : decode cX10_init 31 = .ok (.invokespecial 27, 3) := by decide +kernel
theorem dX10_init_34 : decode cX10_init 34 = .ok (.putfield 28, 3) := by decide +kernel
theorem dX10_init_37 : decode cX10_init 37 = .ok (.return_, 1) := by decide +kernel
theorem dX10_faultOfNewShip_0 : decode cX10_faultOfNewShip 0 = .ok (.aload_n 0, 1) := by decide +kernel
theorem dX10_faultOfNewShip_1 : decode cX10_faultOfNewShip 1 = .ok (.getfield 12, 3) := by decide +kernel
theorem dX10_faultOfNewShip_4 : decode cX10_faultOfNewShip 4 = .ok (.getfield 32, 3) := by decide +kernel
theorem dX10_faultOfNewShip_7 : decode cX10_faultOfNewShip 7 = .ok (.bipush 6, 2) := by decide +kernel
theorem dX10_faultOfNewShip_9 : decode cX10_faultOfNewShip 9 = .ok (.if_icmp .lt 8, 3) := by decide +kernel
theorem dX10_faultOfNewShip_12 : decode cX10_faultOfNewShip 12 = .ok (.bipush 115, 2) := by decide +kernel
theorem dX10_faultOfNewShip_14 : decode cX10_faultOfNewShip 14 = .ok (.goto 5, 3) := by decide +kernel
theorem dX10_faultOfNewShip_17 : decode cX10_faultOfNewShip 17 = .ok (.bipush 32, 2) := by decide +kernel
theorem dX10_faultOfNewShip_19 : decode cX10_faultOfNewShip 19 = .ok (.ireturn, 1) := by decide +kernel
theorem dX10_faultOfNewLamp_0 : decode cX10_faultOfNewLamp 0 = .ok (.iload_n 1, 1) := by decide +kernel
theorem dX10_faultOfNewLamp_1 : decode cX10_faultOfNewLamp 1 = .ok (.iconst 1, 1) := by decide +kernel
theorem dX10_faultOfNewLamp_2 : decode cX10_faultOfNewLamp 2 = .ok (.if_icmp .lt 8, 3) := by decide +kernel
theorem dX10_faultOfNewLamp_5 : decode cX10_faultOfNewLamp 5 = .ok (.iload_n 1, 1) := by decide +kernel
theorem dX10_faultOfNewLamp_6 : decode cX10_faultOfNewLamp 6 = .ok (.iconst 3, 1) := by decide +kernel
theorem dX10_faultOfNewLamp_7 : decode cX10_faultOfNewLamp 7 = .ok (.if_icmp .le 6, 3) := by decide +kernel
theorem dX10_faultOfNewLamp_10 : decode cX10_faultOfNewLamp 10 = .ok (.bipush 97, 2) := by decide +kernel
theorem dX10_faultOfNewLamp_12 : decode cX10_faultOfNewLamp 12 = .ok (.ireturn, 1) := by decide +kernel
theorem dX10_faultOfNewLamp_13 : decode cX10_faultOfNewLamp 13 = .ok (.aload_n 0, 1) := by decide +kernel
theorem dX10_faultOfNewLamp_14 : decode cX10_faultOfNewLamp 14 = .ok (.getfield 21, 3) := by decide +kernel
theorem dX10_faultOfNewLamp_17 : decode cX10_faultOfNewLamp 17 = .ok (.getfield 36, 3) := by decide +kernel
theorem dX10_faultOfNewLamp_20 : decode cX10_faultOfNewLamp 20 = .ok (.bipush 8, 2) := by decide +kernel
theorem dX10_faultOfNewLamp_22 : decode cX10_faultOfNewLamp 22 = .ok (.if_icmp .lt 8, 3) := by decide +kernel
theorem dX10_faultOfNewLamp_25 : decode cX10_faultOfNewLamp 25 = .ok (.bipush 115, 2) := by decide +kernel
theorem dX10_faultOfNewLamp_27 : decode cX10_faultOfNewLamp 27 = .ok (.goto 5, 3) := by decide +kernel
theorem dX10_faultOfNewLamp_30 : decode cX10_faultOfNewLamp 30 = .ok (.bipush 32, 2) := by decide +kernel
theorem dX10_faultOfNewLamp_32 : decode cX10_faultOfNewLamp 32 = .ok (.ireturn, 1) := by decide +kernel
theorem dX10_faultOfNewOil_0 : decode cX10_faultOfNewOil 0 = .ok (.iload_n 1, 1) := by decide +kernel
theorem dX10_faultOfNewOil_1 : decode cX10_faultOfNewOil 1 = .ok (.iconst 1, 1) := by decide +kernel
theorem dX10_faultOfNewOil_2 : decode cX10_faultOfNewOil 2 = .ok (.if_icmp .lt 10, 3) := by decide +kernel
theorem dX10_faultOfNewOil_5 : decode cX10_faultOfNewOil 5 = .ok (.iload_n 1, 1) := by decide +kernel
theorem dX10_faultOfNewOil_6 : decode cX10_faultOfNewOil 6 = .ok (.sipush 200, 3) := by decide +kernel
theorem dX10_faultOfNewOil_9 : decode cX10_faultOfNewOil 9 = .ok (.if_icmp .le 6, 3) := by decide +kernel
theorem dX10_faultOfNewOil_12 : decode cX10_faultOfNewOil 12 = .ok (.bipush 97, 2) := by decide +kernel
theorem dX10_faultOfNewOil_14 : decode cX10_faultOfNewOil 14 = .ok (.ireturn, 1) := by decide +kernel
theorem dX10_faultOfNewOil_15 : decode cX10_faultOfNewOil 15 = .ok (.aload_n 0, 1) := by decide +kernel
theorem dX10_faultOfNewOil_16 : decode cX10_faultOfNewOil 16 = .ok (.getfield 37, 3) := by decide +kernel
theorem dX10_faultOfNewOil_19 : decode cX10_faultOfNewOil 19 = .ok (.iload_n 1, 1) := by decide +kernel
theorem dX10_faultOfNewOil_20 : decode cX10_faultOfNewOil 20 = .ok (.iadd, 1) := by decide +kernel
theorem dX10_faultOfNewOil_21 : decode cX10_faultOfNewOil 21 = .ok (.sipush 500, 3) := by decide +kernel
theorem dX10_faultOfNewOil_24 : decode cX10_faultOfNewOil 24 = .ok (.if_icmp .le 8, 3) := by decide +kernel
theorem dX10_faultOfNewOil_27 : decode cX10_faultOfNewOil 27 = .ok (.bipush 115, 2) := by decide +kernel
theorem dX10_faultOfNewOil_29 : decode cX10_faultOfNewOil 29 = .ok (.goto 5, 3) := by decide +kernel
theorem dX10_faultOfNewOil_32 : decode cX10_faultOfNewOil 32 = .ok (.bipush 32, 2) := by decide +kernel
theorem dX10_faultOfNewOil_34 : decode cX10_faultOfNewOil 34 = .ok (.ireturn, 1) := by decide +kernel
theorem dX10_faultOfLease_0 : decode cX10_faultOfLease 0 = .ok (.aload_n 0, 1) := by decide +kernel
theorem dX10_faultOfLease_1 : decode cX10_faultOfLease 1 = .ok (.getfield 12, 3) := by decide +kernel
theorem dX10_faultOfLease_4 : decode cX10_faultOfLease 4 = .ok (.iload_n 1, 1) := by decide +kernel
theorem dX10_faultOfLease_5 : decode cX10_faultOfLease 5 = .ok (.invokevirtual 40, 3) := by decide +kernel
theorem dX10_faultOfLease_8 : decode cX10_faultOfLease 8 = .ok (.ifCond .eq 14, 3) := by decide +kernel
theorem dX10_faultOfLease_11 : decode cX10_faultOfLease 11 = .ok (.aload_n 0, 1) := by decide +kernel
theorem dX10_faultOfLease_12 : decode cX10_faultOfLease 12 = .ok (.getfield 21, 3) := by decide +kernel
theorem dX10_faultOfLease_15 : decode cX10_faultOfLease 15 = .ok (.iload_n 2, 1) := by decide +kernel
theorem dX10_faultOfLease_16 : decode cX10_faultOfLease 16 = .ok (.invokevirtual 44, 3) := by decide +kernel
theorem dX10_faultOfLease_19 : decode cX10_faultOfLease 19 = .ok (.ifCond .ne 6, 3) := by decide +kernel
theorem dX10_faultOfLease_22 : decode cX10_faultOfLease 22 = .ok (.bipush 105, 2) := by decide +kernel
theorem dX10_faultOfLease_24 : decode cX10_faultOfLease 24 = .ok (.ireturn, 1) := by decide +kernel
theorem dX10_faultOfLease_25 : decode cX10_faultOfLease 25 = .ok (.iload_n 3, 1) := by decide +kernel
theorem dX10_faultOfLease_26 : decode cX10_faultOfLease 26 = .ok (.invokestatic 45, 3) := by decide +kernel
theorem dX10_faultOfLease_29 : decode cX10_faultOfLease 29 = .ok (.ifCond .eq 6, 3) := by decide +kernel
theorem dX10_faultOfLease_32 : decode cX10_faultOfLease 32 = .ok (.bipush 97, 2) := by decide +kernel
theorem dX10_faultOfLease_34 : decode cX10_faultOfLease 34 = .ok (.ireturn, 1) := by decide +kernel
theorem dX10_faultOfLease_35 : decode cX10_faultOfLease 35 = .ok (.aload_n 0, 1) := by decide +kernel
theorem dX10_faultOfLease_36 : decode cX10_faultOfLease 36 = .ok (.getfield 21, 3) := by decide +kernel
theorem dX10_faultOfLease_39 : decode cX10_faultOfLease 39 = .ok (.iload_n 2, 1) := by decide +kernel
theorem dX10_faultOfLease_40 : decode cX10_faultOfLease 40 = .ok (.invokevirtual 48, 3) := by decide +kernel
theorem dX10_faultOfLease_43 : decode cX10_faultOfLease 43 = .ok (.ifCond .eq 6, 3) := by decide +kernel
theorem dX10_faultOfLease_46 : decode cX10_faultOfLease 46 = .ok (.bipush 115, 2) := by decide +kernel
theorem dX10_faultOfLease_48 : decode cX10_faultOfLease 48 = .ok (.ireturn, 1) := by decide +kernel
theorem dX10_faultOfLease_49 : decode cX10_faultOfLease 49 = .ok (.aload_n 0, 1) := by decide +kernel
theorem dX10_faultOfLease_50 : decode cX10_faultOfLease 50 = .ok (.getfield 12, 3) := by decide +kernel
theorem dX10_faultOfLease_53 : decode cX10_faultOfLease 53 = .ok (.iload_n 1, 1) := by decide +kernel
theorem dX10_faultOfLease_54 : decode cX10_faultOfLease 54 = .ok (.aload_n 0, 1) := by decide +kernel
theorem dX10_faultOfLease_55 : decode cX10_faultOfLease 55 = .ok (.iload_n 2, 1) := by decide +kernel
theorem dX10_faultOfLease_56 : decode cX10_faultOfLease 56 = .ok (.iload_n 3, 1) := by decide +kernel
theorem dX10_faultOfLease_57 : decode cX10_faultOfLease 57 = .ok (.invokevirtual 51, 3) := by decide +kernel
theorem dX10_faultOfLease_60 : decode cX10_faultOfLease 60 = .ok (.invokevirtual 55, 3) := by decide +kernel
theorem dX10_faultOfLease_63 : decode cX10_faultOfLease 63 = .ok (.ifCond .eq 8, 3) := by decide +kernel
theorem dX10_faultOfLease_66 : decode cX10_faultOfLease 66 = .ok (.bipush 32, 2) := by decide +kernel
theorem dX10_faultOfLease_68 : decode cX10_faultOfLease 68 = .ok (.goto 5, 3) := by decide +kernel
theorem dX10_faultOfLease_71 : decode cX10_faultOfLease 71 = .ok (.bipush 117, 2) := by decide +kernel
theorem dX10_faultOfLease_73 : decode cX10_faultOfLease 73 = .ok (.ireturn, 1) := by decide +kernel
theorem dX10_faultOfRequest_0 : decode cX10_faultOfRequest 0 = .ok (.aload_n 0, 1) := by decide +kernel
theorem dX10_faultOfRequest_1 : decode cX10_faultOfRequest 1 = .ok (.getfield 21, 3) := by decide +kernel
theorem dX10_faultOfRequest_4 : decode cX10_faultOfRequest 4 = .ok (.iload_n 1, 1) := by decide +kernel
theorem dX10_faultOfRequest_5 : decode cX10_faultOfRequest 5 = .ok (.invokevirtual 44, 3) := by decide +kernel
theorem dX10_faultOfRequest_8 : decode cX10_faultOfRequest 8 = .ok (.ifCond .ne 6, 3) := by decide +kernel
theorem dX10_faultOfRequest_11 : decode cX10_faultOfRequest 11 = .ok (.bipush 105, 2) := by decide +kernel
theorem dX10_faultOfRequest_13 : decode cX10_faultOfRequest 13 = .ok (.ireturn, 1) := by decide +kernel
theorem dX10_faultOfRequest_14 : decode cX10_faultOfRequest 14 = .ok (.iload_n 2, 1) := by decide +kernel
theorem dX10_faultOfRequest_15 : decode cX10_faultOfRequest 15 = .ok (.invokestatic 45, 3) := by decide +kernel
theorem dX10_faultOfRequest_18 : decode cX10_faultOfRequest 18 = .ok (.ifCond .eq 6, 3) := by decide +kernel
theorem dX10_faultOfRequest_21 : decode cX10_faultOfRequest 21 = .ok (.bipush 97, 2) := by decide +kernel
theorem dX10_faultOfRequest_23 : decode cX10_faultOfRequest 23 = .ok (.ireturn, 1) := by decide +kernel
theorem dX10_faultOfRequest_24 : decode cX10_faultOfRequest 24 = .ok (.aload_n 0, 1) := by decide +kernel
theorem dX10_faultOfRequest_25 : decode cX10_faultOfRequest 25 = .ok (.getfield 21, 3) := by decide +kernel
theorem dX10_faultOfRequest_28 : decode cX10_faultOfRequest 28 = .ok (.iload_n 1, 1) := by decide +kernel
theorem dX10_faultOfRequest_29 : decode cX10_faultOfRequest 29 = .ok (.invokevirtual 48, 3) := by decide +kernel
theorem dX10_faultOfRequest_32 : decode cX10_faultOfRequest 32 = .ok (.ifCond .ne 6, 3) := by decide +kernel
theorem dX10_faultOfRequest_35 : decode cX10_faultOfRequest 35 = .ok (.bipush 110, 2) := by decide +kernel
theorem dX10_faultOfRequest_37 : decode cX10_faultOfRequest 37 = .ok (.ireturn, 1) := by decide +kernel
theorem dX10_faultOfRequest_38 : decode cX10_faultOfRequest 38 = .ok (.aload_n 0, 1) := by decide +kernel
theorem dX10_faultOfRequest_39 : decode cX10_faultOfRequest 39 = .ok (.getfield 28, 3) := by decide +kernel
theorem dX10_faultOfRequest_42 : decode cX10_faultOfRequest 42 = .ok (.iload_n 1, 1) := by decide +kernel
theorem dX10_faultOfRequest_43 : decode cX10_faultOfRequest 43 = .ok (.invokevirtual 59, 3) := by decide +kernel
theorem dX10_faultOfRequest_46 : decode cX10_faultOfRequest 46 = .ok (.iconst (-1), 1) := by decide +kernel
theorem dX10_faultOfRequest_47 : decode cX10_faultOfRequest 47 = .ok (.if_icmp .eq 8, 3) := by decide +kernel
theorem dX10_faultOfRequest_50 : decode cX10_faultOfRequest 50 = .ok (.bipush 115, 2) := by decide +kernel
theorem dX10_faultOfRequest_52 : decode cX10_faultOfRequest 52 = .ok (.goto 5, 3) := by decide +kernel
theorem dX10_faultOfRequest_55 : decode cX10_faultOfRequest 55 = .ok (.bipush 32, 2) := by decide +kernel
theorem dX10_faultOfRequest_57 : decode cX10_faultOfRequest 57 = .ok (.ireturn, 1) := by decide +kernel
theorem dX10_faultOfUnleased_0 : decode cX10_faultOfUnleased 0 = .ok (.aload_n 0, 1) := by decide +kernel
theorem dX10_faultOfUnleased_1 : decode cX10_faultOfUnleased 1 = .ok (.getfield 21, 3) := by decide +kernel
theorem dX10_faultOfUnleased_4 : decode cX10_faultOfUnleased 4 = .ok (.iload_n 1, 1) := by decide +kernel
theorem dX10_faultOfUnleased_5 : decode cX10_faultOfUnleased 5 = .ok (.invokevirtual 44, 3) := by decide +kernel
theorem dX10_faultOfUnleased_8 : decode cX10_faultOfUnleased 8 = .ok (.ifCond .ne 6, 3) := by decide +kernel
theorem dX10_faultOfUnleased_11 : decode cX10_faultOfUnleased 11 = .ok (.bipush 105, 2) := by decide +kernel
theorem dX10_faultOfUnleased_13 : decode cX10_faultOfUnleased 13 = .ok (.ireturn, 1) := by decide +kernel
theorem dX10_faultOfUnleased_14 : decode cX10_faultOfUnleased 14 = .ok (.aload_n 0, 1) := by decide +kernel
theorem dX10_faultOfUnleased_15 : decode cX10_faultOfUnleased 15 = .ok (.getfield 21, 3) := by decide +kernel
theorem dX10_faultOfUnleased_18 : decode cX10_faultOfUnleased 18 = .ok (.iload_n 1, 1) := by decide +kernel
theorem dX10_faultOfUnleased_19 : decode cX10_faultOfUnleased 19 = .ok (.invokevirtual 48, 3) := by decide +kernel
theorem dX10_faultOfUnleased_22 : decode cX10_faultOfUnleased 22 = .ok (.ifCond .eq 8, 3) := by decide +kernel
theorem dX10_faultOfUnleased_25 : decode cX10_faultOfUnleased 25 = .ok (.bipush 32, 2) := by decide +kernel
theorem dX10_faultOfUnleased_27 : decode cX10_faultOfUnleased 27 = .ok (.goto 5, 3) := by decide +kernel
theorem dX10_faultOfUnleased_30 : decode cX10_faultOfUnleased 30 = .ok (.bipush 110, 2) := by decide +kernel
theorem dX10_faultOfUnleased_32 : decode cX10_faultOfUnleased 32 = .ok (.ireturn, 1) := by decide +kernel
theorem dX10_faultOfWait_0 : decode cX10_faultOfWait 0 = .ok (.iload_n 1, 1) := by decide +kernel
theorem dX10_faultOfWait_1 : decode cX10_faultOfWait 1 = .ok (.iconst 1, 1) := by decide +kernel
theorem dX10_faultOfWait_2 : decode cX10_faultOfWait 2 = .ok (.if_icmp .lt 9, 3) := by decide +kernel
theorem dX10_faultOfWait_5 : decode cX10_faultOfWait 5 = .ok (.iload_n 1, 1) := by decide +kernel
theorem dX10_faultOfWait_6 : decode cX10_faultOfWait 6 = .ok (.bipush 48, 2) := by decide +kernel
theorem dX10_faultOfWait_8 : decode cX10_faultOfWait 8 = .ok (.if_icmp .le 8, 3) := by decide +kernel
theorem dX10_faultOfWait_11 : decode cX10_faultOfWait 11 = .ok (.bipush 97, 2) := by decide +kernel
theorem dX10_faultOfWait_13 : decode cX10_faultOfWait 13 = .ok (.goto 5, 3) := by decide +kernel
theorem dX10_faultOfWait_16 : decode cX10_faultOfWait 16 = .ok (.bipush 32, 2) := by decide +kernel
theorem dX10_faultOfWait_18 : decode cX10_faultOfWait 18 = .ok (.ireturn, 1) := by decide +kernel
theorem dX10_isNoLeaseTime_0 : decode cX10_isNoLeaseTime 0 = .ok (.iload_n 0, 1) := by decide +kernel
theorem dX10_isNoLeaseTime_1 : decode cX10_isNoLeaseTime 1 = .ok (.iconst 1, 1) := by decide +kernel
theorem dX10_isNoLeaseTime_2 : decode cX10_isNoLeaseTime 2 = .ok (.if_icmp .lt 9, 3) := by decide +kernel
theorem dX10_isNoLeaseTime_5 : decode cX10_isNoLeaseTime 5 = .ok (.iload_n 0, 1) := by decide +kernel
theorem dX10_isNoLeaseTime_6 : decode cX10_isNoLeaseTime 6 = .ok (.bipush 24, 2) := by decide +kernel
theorem dX10_isNoLeaseTime_8 : decode cX10_isNoLeaseTime 8 = .ok (.if_icmp .le 7, 3) := by decide +kernel
theorem dX10_isNoLeaseTime_11 : decode cX10_isNoLeaseTime 11 = .ok (.iconst 1, 1) := by decide +kernel
theorem dX10_isNoLeaseTime_12 : decode cX10_isNoLeaseTime 12 = .ok (.goto 4, 3) := by decide +kernel
theorem dX10_isNoLeaseTime_15 : decode cX10_isNoLeaseTime 15 = .ok (.iconst 0, 1) := by decide +kernel
theorem dX10_isNoLeaseTime_16 : decode cX10_isNoLeaseTime 16 = .ok (.ireturn, 1) := by decide +kernel
theorem dX10_price_0 : decode cX10_price 0 = .ok (.aload_n 0, 1) := by decide +kernel
theorem dX10_price_1 : decode cX10_price 1 = .ok (.getfield 21, 3) := by decide +kernel
theorem dX10_price_4 : decode cX10_price 4 = .ok (.iload_n 1, 1) := by decide +kernel
theorem dX10_price_5 : decode cX10_price 5 = .ok (.invokevirtual 44, 3) := by decide +kernel
theorem dX10_price_8 : decode cX10_price 8 = .ok (.ifCond .eq 17, 3) := by decide +kernel
theorem dX10_price_11 : decode cX10_price 11 = .ok (.aload_n 0, 1) := by decide +kernel
theorem dX10_price_12 : decode cX10_price 12 = .ok (.getfield 21, 3) := by decide +kernel
theorem dX10_price_15 : decode cX10_price 15 = .ok (.getfield 63, 3) := by decide +kernel
theorem dX10_price_18 : decode cX10_price 18 = .ok (.iload_n 1, 1) := by decide +kernel
theorem dX10_price_19 : decode cX10_price 19 = .ok (.iaload, 1) := by decide +kernel
theorem dX10_price_20 : decode cX10_price 20 = .ok (.iload_n 2, 1) := by decide +kernel
theorem dX10_price_21 : decode cX10_price 21 = .ok (.imul, 1) := by decide +kernel
theorem dX10_price_22 : decode cX10_price 22 = .ok (.goto 4, 3) := by decide +kernel
theorem dX10_price_25 : decode cX10_price 25 = .ok (.iconst 0, 1) := by decide +kernel
theorem dX10_price_26 : decode cX10_price 26 = .ok (.ireturn, 1) := by decide +kernel
theorem dX10_fillUp_0 : decode cX10_fillUp 0 = .ok (.aload_n 0, 1) := by decide +kernel
theorem dX10_fillUp_1 : decode cX10_fillUp 1 = .ok (.dup, 1) := by decide +kernel
theorem dX10_fillUp_2 : decode cX10_fillUp 2 = .ok (.getfield 37, 3) := by decide +kernel
theorem dX10_fillUp_5 : decode cX10_fillUp 5 = .ok (.iload_n 1, 1) := by decide +kernel
theorem dX10_fillUp_6 : decode cX10_fillUp 6 = .ok (.iadd, 1) := by decide +kernel
theorem dX10_fillUp_7 : decode cX10_fillUp 7 = .ok (.putfield 37, 3) := by decide +kernel
theorem dX10_fillUp_10 : decode cX10_fillUp 10 = .ok (.aload_n 0, 1) := by decide +kernel
theorem dX10_fillUp_11 : decode cX10_fillUp 11 = .ok (.getfield 37, 3) := by decide +kernel
theorem dX10_fillUp_14 : decode cX10_fillUp 14 = .ok (.ireturn, 1) := by decide +kernel
theorem dX10_leaseOut_0 : decode cX10_leaseOut 0 = .ok (.aload_n 0, 1) := by decide +kernel
theorem dX10_leaseOut_1 : decode cX10_leaseOut 1 = .ok (.getfield 21, 3) := by decide +kernel
theorem dX10_leaseOut_4 : decode cX10_leaseOut 4 = .ok (.iload_n 2, 1) := by decide +kernel
theorem dX10_leaseOut_5 : decode cX10_leaseOut 5 = .ok (.invokevirtual 44, 3) := by decide +kernel
theorem dX10_leaseOut_8 : decode cX10_leaseOut 8 = .ok (.ifCond .ne 5, 3) := by decide +kernel
theorem dX10_leaseOut_11 : decode cX10_leaseOut 11 = .ok (.iconst (-1), 1) := by decide +kernel
theorem dX10_leaseOut_12 : decode cX10_leaseOut 12 = .ok (.ireturn, 1) := by decide +kernel
theorem dX10_leaseOut_13 : decode cX10_leaseOut 13 = .ok (.aload_n 0, 1) := by decide +kernel
theorem dX10_leaseOut_14 : decode cX10_leaseOut 14 = .ok (.iload_n 1, 1) := by decide +kernel
theorem dX10_leaseOut_15 : decode cX10_leaseOut 15 = .ok (.aload_n 0, 1) := by decide +kernel
theorem dX10_leaseOut_16 : decode cX10_leaseOut 16 = .ok (.iload_n 2, 1) := by decide +kernel
theorem dX10_leaseOut_17 : decode cX10_leaseOut 17 = .ok (.iload_n 3, 1) := by decide +kernel
theorem dX10_leaseOut_18 : decode cX10_leaseOut 18 = .ok (.invokevirtual 51, 3) := by decide +kernel
theorem dX10_leaseOut_21 : decode cX10_leaseOut 21 = .ok (.invokevirtual 67, 3) := by decide +kernel
theorem dX10_leaseOut_24 : decode cX10_leaseOut 24 = .ok (.aload_n 0, 1) := by decide +kernel
theorem dX10_leaseOut_25 : decode cX10_leaseOut 25 = .ok (.getfield 21, 3) := by decide +kernel
theorem dX10_leaseOut_28 : decode cX10_leaseOut 28 = .ok (.getfield 71, 3) := by decide +kernel
theorem dX10_leaseOut_31 : decode cX10_leaseOut 31 = .ok (.iload_n 2, 1) := by decide +kernel
theorem dX10_leaseOut_32 : decode cX10_leaseOut 32 = .ok (.iload_n 1, 1) := by decide +kernel
theorem dX10_leaseOut_33 : decode cX10_leaseOut 33 = .ok (.iastore, 1) := by decide +kernel
theorem dX10_leaseOut_34 : decode cX10_leaseOut 34 = .ok (.aload_n 0, 1) := by decide +kernel
theorem dX10_leaseOut_35 : decode cX10_leaseOut 35 = .ok (.getfield 21, 3) := by decide +kernel
theorem dX10_leaseOut_38 : decode cX10_leaseOut 38 = .ok (.getfield 74, 3) := by decide +kernel
theorem dX10_leaseOut_41 : decode cX10_leaseOut 41 = .ok (.iload_n 2, 1) := by decide +kernel
theorem dX10_leaseOut_42 : decode cX10_leaseOut 42 = .ok (.aload_n 0, 1) := by decide +kernel
theorem dX10_leaseOut_43 : decode cX10_leaseOut 43 = .ok (.getfield 77, 3) := by decide +kernel
theorem dX10_leaseOut_46 : decode cX10_leaseOut 46 = .ok (.iload_n 3, 1) := by decide +kernel
theorem dX10_leaseOut_47 : decode cX10_leaseOut 47 = .ok (.iadd, 1) := by decide +kernel
theorem dX10_leaseOut_48 : decode cX10_leaseOut 48 = .ok (.iastore, 1) := by decide +kernel
theorem dX10_leaseOut_49 : decode cX10_leaseOut 49 = .ok (.aload_n 0, 1) := by decide +kernel
theorem dX10_leaseOut_50 : decode cX10_leaseOut 50 = .ok (.getfield 21, 3) := by decide +kernel
theorem dX10_leaseOut_53 : decode cX10_leaseOut 53 = .ok (.getfield 74, 3) := by decide +kernel
theorem dX10_leaseOut_56 : decode cX10_leaseOut 56 = .ok (.iload_n 2, 1) := by decide +kernel
theorem dX10_leaseOut_57 : decode cX10_leaseOut 57 = .ok (.iaload, 1) := by decide +kernel
theorem dX10_leaseOut_58 : decode cX10_leaseOut 58 = .ok (.ireturn, 1) := by decide +kernel
theorem dX10_payOffice_0 : decode cX10_payOffice 0 = .ok (.iload_n 1, 1) := by decide +kernel
theorem dX10_payOffice_1 : decode cX10_payOffice 1 = .ok (.ifCond .lt 37, 3) := by decide +kernel
theorem dX10_payOffice_4 : decode cX10_payOffice 4 = .ok (.iload_n 1, 1) := by decide +kernel
theorem dX10_payOffice_5 : decode cX10_payOffice 5 = .ok (.aload_n 0, 1) := by decide +kernel
theorem dX10_payOffice_6 : decode cX10_payOffice 6 = .ok (.getfield 12, 3) := by decide +kernel
theorem dX10_payOffice_9 : decode cX10_payOffice 9 = .ok (.getfield 32, 3) := by decide +kernel
theorem dX10_payOffice_12 : decode cX10_payOffice 12 = .ok (.if_icmp .ge 26, 3) := by decide +kernel
theorem dX10_payOffice_15 : decode cX10_payOffice 15 = .ok (.aload_n 0, 1) := by decide +kernel
theorem dX10_payOffice_16 : decode cX10_payOffice 16 = .ok (.getfield 12, 3) := by decide +kernel
theorem dX10_payOffice_19 : decode cX10_payOffice 19 = .ok (.getfield 80, 3) := by decide +kernel
theorem dX10_payOffice_22 : decode cX10_payOffice 22 = .ok (.iload_n 1, 1) := by decide +kernel
theorem dX10_payOffice_23 : decode cX10_payOffice 23 = .ok (.dup2, 1) := by decide +kernel
theorem dX10_payOffice_24 : decode cX10_payOffice 24 = .ok (.iaload, 1) := by decide +kernel
theorem dX10_payOffice_25 : decode cX10_payOffice 25 = .ok (.iload_n 2, 1) := by decide +kernel
theorem dX10_payOffice_26 : decode cX10_payOffice 26 = .ok (.isub, 1) := by decide +kernel
theorem dX10_payOffice_27 : decode cX10_payOffice 27 = .ok (.iastore, 1) := by decide +kernel
theorem dX10_payOffice_28 : decode cX10_payOffice 28 = .ok (.aload_n 0, 1) := by decide +kernel
theorem dX10_payOffice_29 : decode cX10_payOffice 29 = .ok (.dup, 1) := by decide +kernel
theorem dX10_payOffice_30 : decode cX10_payOffice 30 = .ok (.getfield 83, 3) := by decide +kernel
theorem dX10_payOffice_33 : decode cX10_payOffice 33 = .ok (.iload_n 2, 1) := by decide +kernel
theorem dX10_payOffice_34 : decode cX10_payOffice 34 = .ok (.iadd, 1) := by decide +kernel
theorem dX10_payOffice_35 : decode cX10_payOffice 35 = .ok (.putfield 83, 3) := by decide +kernel
theorem dX10_payOffice_38 : decode cX10_payOffice 38 = .ok (.return_, 1) := by decide +kernel
theorem dX10_takeBack_0 : decode cX10_takeBack 0 = .ok (.aload_n 0, 1) := by decide +kernel
theorem dX10_takeBack_1 : decode cX10_takeBack 1 = .ok (.getfield 21, 3) := by decide +kernel
theorem dX10_takeBack_4 : decode cX10_takeBack 4 = .ok (.iload_n 1, 1) := by decide +kernel
theorem dX10_takeBack_5 : decode cX10_takeBack 5 = .ok (.invokevirtual 44, 3) := by decide +kernel
theorem dX10_takeBack_8 : decode cX10_takeBack 8 = .ok (.ifCond .ne 5, 3) := by decide +kernel
theorem dX10_takeBack_11 : decode cX10_takeBack 11 = .ok (.iconst (-1), 1) := by decide +kernel
theorem dX10_takeBack_12 : decode cX10_takeBack 12 = .ok (.ireturn, 1) := by decide +kernel
theorem dX10_takeBack_13 : decode cX10_takeBack 13 = .ok (.aload_n 0, 1) := by decide +kernel
theorem dX10_takeBack_14 : decode cX10_takeBack 14 = .ok (.getfield 21, 3) := by decide +kernel
theorem dX10_takeBack_17 : decode cX10_takeBack 17 = .ok (.getfield 74, 3) := by decide +kernel
theorem dX10_takeBack_20 : decode cX10_takeBack 20 = .ok (.iload_n 1, 1) := by decide +kernel
theorem dX10_takeBack_21 : decode cX10_takeBack 21 = .ok (.iaload, 1) := by decide +kernel
theorem dX10_takeBack_22 : decode cX10_takeBack 22 = .ok (.aload_n 0, 1) := by decide +kernel
theorem dX10_takeBack_23 : decode cX10_takeBack 23 = .ok (.getfield 77, 3) := by decide +kernel
theorem dX10_takeBack_26 : decode cX10_takeBack 26 = .ok (.isub, 1) := by decide +kernel
theorem dX10_takeBack_27 : decode cX10_takeBack 27 = .ok (.istore_n 2, 1) := by decide +kernel
theorem dX10_takeBack_28 : decode cX10_takeBack 28 = .ok (.aload_n 0, 1) := by decide +kernel
theorem dX10_takeBack_29 : decode cX10_takeBack 29 = .ok (.getfield 21, 3) := by decide +kernel
theorem dX10_takeBack_32 : decode cX10_takeBack 32 = .ok (.getfield 71, 3) := by decide +kernel
theorem dX10_takeBack_35 : decode cX10_takeBack 35 = .ok (.iload_n 1, 1) := by decide +kernel
theorem dX10_takeBack_36 : decode cX10_takeBack 36 = .ok (.iconst (-1), 1) := by decide +kernel
theorem dX10_takeBack_37 : decode cX10_takeBack 37 = .ok (.iastore, 1) := by decide +kernel
theorem dX10_takeBack_38 : decode cX10_takeBack 38 = .ok (.aload_n 0, 1) := by decide +kernel
theorem dX10_takeBack_39 : decode cX10_takeBack 39 = .ok (.getfield 21, 3) := by decide +kernel
theorem dX10_takeBack_42 : decode cX10_takeBack 42 = .ok (.getfield 74, 3) := by decide +kernel
theorem dX10_takeBack_45 : decode cX10_takeBack 45 = .ok (.iload_n 1, 1) := by decide +kernel
theorem dX10_takeBack_46 : decode cX10_takeBack 46 = .ok (.iconst 0, 1) := by decide +kernel
theorem dX10_takeBack_47 : decode cX10_takeBack 47 = .ok (.iastore, 1) := by decide +kernel
theorem dX10_takeBack_48 : decode cX10_takeBack 48 = .ok (.aload_n 0, 1) := by decide +kernel
theorem dX10_takeBack_49 : decode cX10_takeBack 49 = .ok (.getfield 28, 3) := by decide +kernel
theorem dX10_takeBack_52 : decode cX10_takeBack 52 = .ok (.iload_n 1, 1) := by decide +kernel
theorem dX10_takeBack_53 : decode cX10_takeBack 53 = .ok (.invokevirtual 86, 3) := by decide +kernel
theorem dX10_takeBack_56 : decode cX10_takeBack 56 = .ok (.iload_n 2, 1) := by decide +kernel
theorem dX10_takeBack_57 : decode cX10_takeBack 57 = .ok (.ireturn, 1) := by decide +kernel
theorem dX10_letPass_0 : decode cX10_letPass 0 = .ok (.iconst 0, 1) := by decide +kernel
theorem dX10_letPass_1 : decode cX10_letPass 1 = .ok (.istore_n 2, 1) := by decide +kernel
theorem dX10_letPass_2 : decode cX10_letPass 2 = .ok (.iconst 0, 1) := by decide +kernel
theorem dX10_letPass_3 : decode cX10_letPass 3 = .ok (.istore_n 3, 1) := by decide +kernel
theorem dX10_letPass_4 : decode cX10_letPass 4 = .ok (.iload_n 3, 1) := by decide +kernel
theorem dX10_letPass_5 : decode cX10_letPass 5 = .ok (.iload_n 1, 1) := by decide +kernel
theorem dX10_letPass_6 : decode cX10_letPass 6 = .ok (.if_icmp .ge 16, 3) := by decide +kernel
theorem dX10_letPass_9 : decode cX10_letPass 9 = .ok (.iload_n 2, 1) := by decide +kernel
theorem dX10_letPass_10 : decode cX10_letPass 10 = .ok (.aload_n 0, 1) := by decide +kernel
theorem dX10_letPass_11 : decode cX10_letPass 11 = .ok (.invokevirtual 90, 3) := by decide +kernel
theorem dX10_letPass_14 : decode cX10_letPass 14 = .ok (.iadd, 1) := by decide +kernel
theorem dX10_letPass_15 : decode cX10_letPass 15 = .ok (.istore_n 2, 1) := by decide +kernel
theorem dX10_letPass_16 : decode cX10_letPass 16 = .ok (.iinc 3 1, 3) := by decide +kernel
theorem dX10_letPass_19 : decode cX10_letPass 19 = .ok (.goto (-15), 3) := by decide +kernel
theorem dX10_letPass_22 : decode cX10_letPass 22 = .ok (.iload_n 2, 1) := by decide +kernel
theorem dX10_letPass_23 : decode cX10_letPass 23 = .ok (.ireturn, 1) := by decide +kernel
theorem dX10_passOneHour_0 : decode cX10_passOneHour 0 = .ok (.aload_n 0, 1) := by decide +kernel
theorem dX10_passOneHour_1 : decode cX10_passOneHour 1 = .ok (.invokevirtual 94, 3) := by decide +kernel
theorem dX10_passOneHour_4 : decode cX10_passOneHour 4 = .ok (.aload_n 0, 1) := by decide +kernel
theorem dX10_passOneHour_5 : decode cX10_passOneHour 5 = .ok (.invokevirtual 97, 3) := by decide +kernel
theorem dX10_passOneHour_8 : decode cX10_passOneHour 8 = .ok (.aload_n 0, 1) := by decide +kernel
theorem dX10_passOneHour_9 : decode cX10_passOneHour 9 = .ok (.invokevirtual 100, 3) := by decide +kernel
theorem dX10_passOneHour_12 : decode cX10_passOneHour 12 = .ok (.aload_n 0, 1) := by decide +kernel
theorem dX10_passOneHour_13 : decode cX10_passOneHour 13 = .ok (.dup, 1) := by decide +kernel
theorem dX10_passOneHour_14 : decode cX10_passOneHour 14 = .ok (.getfield 77, 3) := by decide +kernel
theorem dX10_passOneHour_17 : decode cX10_passOneHour 17 = .ok (.iconst 1, 1) := by decide +kernel
theorem dX10_passOneHour_18 : decode cX10_passOneHour 18 = .ok (.iadd, 1) := by decide +kernel
theorem dX10_passOneHour_19 : decode cX10_passOneHour 19 = .ok (.putfield 77, 3) := by decide +kernel
theorem dX10_passOneHour_22 : decode cX10_passOneHour 22 = .ok (.aload_n 0, 1) := by decide +kernel
theorem dX10_passOneHour_23 : decode cX10_passOneHour 23 = .ok (.invokevirtual 103, 3) := by decide +kernel
theorem dX10_passOneHour_26 : decode cX10_passOneHour 26 = .ok (.ireturn, 1) := by decide +kernel
theorem dX10_processRequests_0 : decode cX10_processRequests 0 = .ok (.iconst 0, 1) := by decide +kernel
theorem dX10_processRequests_1 : decode cX10_processRequests 1 = .ok (.istore_n 1, 1) := by decide +kernel
theorem dX10_processRequests_2 : decode cX10_processRequests 2 = .ok (.iload_n 1, 1) := by decide +kernel
theorem dX10_processRequests_3 : decode cX10_processRequests 3 = .ok (.aload_n 0, 1) := by decide +kernel
theorem dX10_processRequests_4 : decode cX10_processRequests 4 = .ok (.getfield 28, 3) := by decide +kernel
theorem dX10_processRequests_7 : decode cX10_processRequests 7 = .ok (.getfield 106, 3) := by decide +kernel
theorem dX10_processRequests_10 : decode cX10_processRequests 10 = .ok (.if_icmp .ge 46, 3) := by decide +kernel
theorem dX10_processRequests_13 : decode cX10_processRequests 13 = .ok (.aload_n 0, 1) := by decide +kernel
theorem dX10_processRequests_14 : decode cX10_processRequests 14 = .ok (.getfield 28, 3) := by decide +kernel
theorem dX10_processRequests_17 : decode cX10_processRequests 17 = .ok (.getfield 107, 3) := by decide +kernel
theorem dX10_processRequests_20 : decode cX10_processRequests 20 = .ok (.iload_n 1, 1) := by decide +kernel
theorem dX10_processRequests_21 : decode cX10_processRequests 21 = .ok (.iaload, 1) := by decide +kernel
theorem dX10_processRequests_22 : decode cX10_processRequests 22 = .ok (.istore_n 2, 1) := by decide +kernel
theorem dX10_processRequests_23 : decode cX10_processRequests 23 = .ok (.aload_n 0, 1) := by decide +kernel
theorem dX10_processRequests_24 : decode cX10_processRequests 24 = .ok (.getfield 28, 3) := by decide +kernel
theorem dX10_processRequests_27 : decode cX10_processRequests 27 = .ok (.getfield 109, 3) := by decide +kernel
theorem dX10_processRequests_30 : decode cX10_processRequests 30 = .ok (.iload_n 1, 1) := by decide +kernel
theorem dX10_processRequests_31 : decode cX10_processRequests 31 = .ok (.iaload, 1) := by decide +kernel
theorem dX10_processRequests_32 : decode cX10_processRequests 32 = .ok (.istore_n 3, 1) := by decide +kernel
theorem dX10_processRequests_33 : decode cX10_processRequests 33 = .ok (.aload_n 0, 1) := by decide +kernel
theorem dX10_processRequests_34 : decode cX10_processRequests 34 = .ok (.getfield 21, 3) := by decide +kernel
theorem dX10_processRequests_37 : decode cX10_processRequests 37 = .ok (.iload_n 2, 1) := by decide +kernel
theorem dX10_processRequests_38 : decode cX10_processRequests 38 = .ok (.invokevirtual 48, 3) := by decide +kernel
theorem dX10_processRequests_41 : decode cX10_processRequests 41 = .ok (.ifCond .eq 9, 3) := by decide +kernel
theorem dX10_processRequests_44 : decode cX10_processRequests 44 = .ok (.aload_n 0, 1) := by decide +kernel
theorem dX10_processRequests_45 : decode cX10_processRequests 45 = .ok (.iload_n 2, 1) := by decide +kernel
theorem dX10_processRequests_46 : decode cX10_processRequests 46 = .ok (.iload_n 3, 1) := by decide +kernel
theorem dX10_processRequests_47 : decode cX10_processRequests 47 = .ok (.invokevirtual 112, 3) := by decide +kernel
theorem dX10_processRequests_50 : decode cX10_processRequests 50 = .ok (.iinc 1 1, 3) := by decide +kernel
theorem dX10_processRequests_53 : decode cX10_processRequests 53 = .ok (.goto (-51), 3) := by decide +kernel
theorem dX10_processRequests_56 : decode cX10_processRequests 56 = .ok (.aload_n 0, 1) := by decide +kernel
theorem dX10_processRequests_57 : decode cX10_processRequests 57 = .ok (.getfield 28, 3) := by decide +kernel
theorem dX10_processRequests_60 : decode cX10_processRequests 60 = .ok (.invokevirtual 115, 3) := by decide +kernel
theorem dX10_processRequests_63 : decode cX10_processRequests 63 = .ok (.return_, 1) := by decide +kernel
theorem dX10_renewOrRefuse_0 : decode cX10_renewOrRefuse 0 = .ok (.aload_n 0, 1) := by decide +kernel
theorem dX10_renewOrRefuse_1 : decode cX10_renewOrRefuse 1 = .ok (.getfield 21, 3) := by decide +kernel
theorem dX10_renewOrRefuse_4 : decode cX10_renewOrRefuse 4 = .ok (.getfield 71, 3) := by decide +kernel
theorem dX10_renewOrRefuse_7 : decode cX10_renewOrRefuse 7 = .ok (.iload_n 1, 1) := by decide +kernel
theorem dX10_renewOrRefuse_8 : decode cX10_renewOrRefuse 8 = .ok (.iaload, 1) := by decide +kernel
theorem dX10_renewOrRefuse_9 : decode cX10_renewOrRefuse 9 = .ok (.istore_n 3, 1) := by decide +kernel
theorem dX10_renewOrRefuse_10 : decode cX10_renewOrRefuse 10 = .ok (.aload_n 0, 1) := by decide +kernel
theorem dX10_renewOrRefuse_11 : decode cX10_renewOrRefuse 11 = .ok (.getfield 21, 3) := by decide +kernel
theorem dX10_renewOrRefuse_14 : decode cX10_renewOrRefuse 14 = .ok (.getfield 63, 3) := by decide +kernel
theorem dX10_renewOrRefuse_17 : decode cX10_renewOrRefuse 17 = .ok (.iload_n 1, 1) := by decide +kernel
theorem dX10_renewOrRefuse_18 : decode cX10_renewOrRefuse 18 = .ok (.iaload, 1) := by decide +kernel
theorem dX10_renewOrRefuse_19 : decode cX10_renewOrRefuse 19 = .ok (.iload_n 2, 1) := by decide +kernel
theorem dX10_renewOrRefuse_20 : decode cX10_renewOrRefuse 20 = .ok (.imul, 1) := by decide +kernel
theorem dX10_renewOrRefuse_21 : decode cX10_renewOrRefuse 21 = .ok (.istore 4, 2) := by decide +kernel
theorem dX10_renewOrRefuse_23 : decode cX10_renewOrRefuse 23 = .ok (.aload_n 0, 1) := by decide +kernel
theorem dX10_renewOrRefuse_24 : decode cX10_renewOrRefuse 24 = .ok (.getfield 12, 3) := by decide +kernel
theorem dX10_renewOrRefuse_27 : decode cX10_renewOrRefuse 27 = .ok (.iload_n 3, 1) := by decide +kernel
theorem dX10_renewOrRefuse_28 : decode cX10_renewOrRefuse 28 = .ok (.iload 4, 2) := by decide +kernel
theorem dX10_renewOrRefuse_30 : decode cX10_renewOrRefuse 30 = .ok (.invokevirtual 55, 3) := by decide +kernel
theorem dX10_renewOrRefuse_33 : decode cX10_renewOrRefuse 33 = .ok (.ifCond .eq 26, 3) := by decide +kernel
theorem dX10_renewOrRefuse_36 : decode cX10_renewOrRefuse 36 = .ok (.aload_n 0, 1) := by decide +kernel
theorem dX10_renewOrRefuse_37 : decode cX10_renewOrRefuse 37 = .ok (.iload_n 3, 1) := by decide +kernel
theorem dX10_renewOrRefuse_38 : decode cX10_renewOrRefuse 38 = .ok (.iload 4, 2) := by decide +kernel
theorem dX10_renewOrRefuse_40 : decode cX10_renewOrRefuse 40 = .ok (.invokevirtual 67, 3) := by decide +kernel
theorem dX10_renewOrRefuse_43 : decode cX10_renewOrRefuse 43 = .ok (.aload_n 0, 1) := by decide +kernel
theorem dX10_renewOrRefuse_44 : decode cX10_renewOrRefuse 44 = .ok (.getfield 21, 3) := by decide +kernel
theorem dX10_renewOrRefuse_47 : decode cX10_renewOrRefuse 47 = .ok (.getfield 74, 3) := by decide +kernel
theorem dX10_renewOrRefuse_50 : decode cX10_renewOrRefuse 50 = .ok (.iload_n 1, 1) := by decide +kernel
theorem dX10_renewOrRefuse_51 : decode cX10_renewOrRefuse 51 = .ok (.dup2, 1) := by decide +kernel
theorem dX10_renewOrRefuse_52 : decode cX10_renewOrRefuse 52 = .ok (.iaload, 1) := by decide +kernel
theorem dX10_renewOrRefuse_53 : decode cX10_renewOrRefuse 53 = .ok (.iload_n 2, 1) := by decide +kernel
theorem dX10_renewOrRefuse_54 : decode cX10_renewOrRefuse 54 = .ok (.iadd, 1) := by decide +kernel
theorem dX10_renewOrRefuse_55 : decode cX10_renewOrRefuse 55 = .ok (.iastore, 1) := by decide +kernel
theorem dX10_renewOrRefuse_56 : decode cX10_renewOrRefuse 56 = .ok (.goto 13, 3) := by decide +kernel
theorem dX10_renewOrRefuse_59 : decode cX10_renewOrRefuse 59 = .ok (.aload_n 0, 1) := by decide +kernel
theorem dX10_renewOrRefuse_60 : decode cX10_renewOrRefuse 60 = .ok (.dup, 1) := by decide +kernel
theorem dX10_renewOrRefuse_61 : decode cX10_renewOrRefuse 61 = .ok (.getfield 118, 3) := by decide +kernel
theorem dX10_renewOrRefuse_64 : decode cX10_renewOrRefuse 64 = .ok (.iconst 1, 1) := by decide +kernel
theorem dX10_renewOrRefuse_65 : decode cX10_renewOrRefuse 65 = .ok (.iadd, 1) := by decide +kernel
theorem dX10_renewOrRefuse_66 : decode cX10_renewOrRefuse 66 = .ok (.putfield 118, 3) := by decide +kernel
theorem dX10_renewOrRefuse_69 : decode cX10_renewOrRefuse 69 = .ok (.return_, 1) := by decide +kernel
theorem dX10_burn_0 : decode cX10_burn 0 = .ok (.iconst 0, 1) := by decide +kernel
theorem dX10_burn_1 : decode cX10_burn 1 = .ok (.istore_n 1, 1) := by decide +kernel
theorem dX10_burn_2 : decode cX10_burn 2 = .ok (.iload_n 1, 1) := by decide +kernel
theorem dX10_burn_3 : decode cX10_burn 3 = .ok (.aload_n 0, 1) := by decide +kernel
theorem dX10_burn_4 : decode cX10_burn 4 = .ok (.getfield 21, 3) := by decide +kernel
theorem dX10_burn_7 : decode cX10_burn 7 = .ok (.getfield 36, 3) := by decide +kernel
theorem dX10_burn_10 : decode cX10_burn 10 = .ok (.if_icmp .ge 93, 3) := by decide +kernel
theorem dX10_burn_13 : decode cX10_burn 13 = .ok (.aload_n 0, 1) := by decide +kernel
theorem dX10_burn_14 : decode cX10_burn 14 = .ok (.getfield 21, 3) := by decide +kernel
theorem dX10_burn_17 : decode cX10_burn 17 = .ok (.getfield 121, 3) := by decide +kernel
theorem dX10_burn_20 : decode cX10_burn 20 = .ok (.iload_n 1, 1) := by decide +kernel
theorem dX10_burn_21 : decode cX10_burn 21 = .ok (.aload_n 0, 1) := by decide +kernel
theorem dX10_burn_22 : decode cX10_burn 22 = .ok (.getfield 21, 3) := by decide +kernel
theorem dX10_burn_25 : decode cX10_burn 25 = .ok (.iload_n 1, 1) := by decide +kernel
theorem dX10_burn_26 : decode cX10_burn 26 = .ok (.invokevirtual 48, 3) := by decide +kernel
theorem dX10_burn_29 : decode cX10_burn 29 = .ok (.ifCond .eq 23, 3) := by decide +kernel
theorem dX10_burn_32 : decode cX10_burn 32 = .ok (.aload_n 0, 1) := by decide +kernel
theorem dX10_burn_33 : decode cX10_burn 33 = .ok (.getfield 21, 3) := by decide +kernel
theorem dX10_burn_36 : decode cX10_burn 36 = .ok (.getfield 63, 3) := by decide +kernel
theorem dX10_burn_39 : decode cX10_burn 39 = .ok (.iload_n 1, 1) := by decide +kernel
theorem dX10_burn_40 : decode cX10_burn 40 = .ok (.iaload, 1) := by decide +kernel
theorem dX10_burn_41 : decode cX10_burn 41 = .ok (.aload_n 0, 1) := by decide +kernel
theorem dX10_burn_42 : decode cX10_burn 42 = .ok (.getfield 37, 3) := by decide +kernel
theorem dX10_burn_45 : decode cX10_burn 45 = .ok (.if_icmp .gt 7, 3) := by decide +kernel
theorem dX10_burn_48 : decode cX10_burn 48 = .ok (.iconst 1, 1) := by decide +kernel
theorem dX10_burn_49 : decode cX10_burn 49 = .ok (.goto 4, 3) := by decide +kernel
theorem dX10_burn_52 : decode cX10_burn 52 = .ok (.iconst 0, 1) := by decide +kernel
theorem dX10_burn_53 : decode cX10_burn 53 = .ok (.bastore, 1) := by decide +kernel
theorem dX10_burn_54 : decode cX10_burn 54 = .ok (.aload_n 0, 1) := by decide +kernel
theorem dX10_burn_55 : decode cX10_burn 55 = .ok (.getfield 21, 3) := by decide +kernel
theorem dX10_burn_58 : decode cX10_burn 58 = .ok (.getfield 121, 3) := by decide +kernel
theorem dX10_burn_61 : decode cX10_burn 61 = .ok (.iload_n 1, 1) := by decide +kernel
theorem dX10_burn_62 : decode cX10_burn 62 = .ok (.baload, 1) := by decide +kernel
theorem dX10_burn_63 : decode cX10_burn 63 = .ok (.ifCond .eq 34, 3) := by decide +kernel
theorem dX10_burn_66 : decode cX10_burn 66 = .ok (.aload_n 0, 1) := by decide +kernel
theorem dX10_burn_67 : decode cX10_burn 67 = .ok (.dup, 1) := by decide +kernel
theorem dX10_burn_68 : decode cX10_burn 68 = .ok (.getfield 37, 3) := by decide +kernel
theorem dX10_burn_71 : decode cX10_burn 71 = .ok (.aload_n 0, 1) := by decide +kernel
theorem dX10_burn_72 : decode cX10_burn 72 = .ok (.getfield 21, 3) := by decide +kernel
theorem dX10_burn_75 : decode cX10_burn 75 = .ok (.getfield 63, 3) := by decide +kernel
theorem dX10_burn_78 : decode cX10_burn 78 = .ok (.iload_n 1, 1) := by decide +kernel
theorem dX10_burn_79 : decode cX10_burn 79 = .ok (.iaload, 1) := by decide +kernel
theorem dX10_burn_80 : decode cX10_burn 80 = .ok (.isub, 1) := by decide +kernel
theorem dX10_burn_81 : decode cX10_burn 81 = .ok (.putfield 37, 3) := by decide +kernel
theorem dX10_burn_84 : decode cX10_burn 84 = .ok (.aload_n 0, 1) := by decide +kernel
theorem dX10_burn_85 : decode cX10_burn 85 = .ok (.getfield 21, 3) := by decide +kernel
theorem dX10_burn_88 : decode cX10_burn 88 = .ok (.getfield 125, 3) := by decide +kernel
theorem dX10_burn_91 : decode cX10_burn 91 = .ok (.iload_n 1, 1) := by decide +kernel
theorem dX10_burn_92 : decode cX10_burn 92 = .ok (.dup2, 1) := by decide +kernel
theorem dX10_burn_93 : decode cX10_burn 93 = .ok (.iaload, 1) := by decide +kernel
theorem dX10_burn_94 : decode cX10_burn 94 = .ok (.iconst 1, 1) := by decide +kernel
theorem dX10_burn_95 : decode cX10_burn 95 = .ok (.iadd, 1) := by decide +kernel
theorem dX10_burn_96 : decode cX10_burn 96 = .ok (.iastore, 1) := by decide +kernel
theorem dX10_burn_97 : decode cX10_burn 97 = .ok (.iinc 1 1, 3) := by decide +kernel
theorem dX10_burn_100 : decode cX10_burn 100 = .ok (.goto (-98), 3) := by decide +kernel
theorem dX10_burn_103 : decode cX10_burn 103 = .ok (.return_, 1) := by decide +kernel
theorem dX10_fineDarkShips_0 : decode cX10_fineDarkShips 0 = .ok (.iconst 0, 1) := by decide +kernel
theorem dX10_fineDarkShips_1 : decode cX10_fineDarkShips 1 = .ok (.istore_n 1, 1) := by decide +kernel
theorem dX10_fineDarkShips_2 : decode cX10_fineDarkShips 2 = .ok (.iload_n 1, 1) := by decide +kernel
theorem dX10_fineDarkShips_3 : decode cX10_fineDarkShips 3 = .ok (.aload_n 0, 1) := by decide +kernel
theorem dX10_fineDarkShips_4 : decode cX10_fineDarkShips 4 = .ok (.getfield 12, 3) := by decide +kernel
theorem dX10_fineDarkShips_7 : decode cX10_fineDarkShips 7 = .ok (.getfield 32, 3) := by decide +kernel
theorem dX10_fineDarkShips_10 : decode cX10_fineDarkShips 10 = .ok (.if_icmp .ge 81, 3) := by decide +kernel
theorem dX10_fineDarkShips_13 : decode cX10_fineDarkShips 13 = .ok (.aload_n 0, 1) := by decide +kernel
theorem dX10_fineDarkShips_14 : decode cX10_fineDarkShips 14 = .ok (.getfield 21, 3) := by decide +kernel
theorem dX10_fineDarkShips_17 : decode cX10_fineDarkShips 17 = .ok (.iload_n 1, 1) := by decide +kernel
theorem dX10_fineDarkShips_18 : decode cX10_fineDarkShips 18 = .ok (.invokevirtual 128, 3) := by decide +kernel
theorem dX10_fineDarkShips_21 : decode cX10_fineDarkShips 21 = .ok (.istore_n 2, 1) := by decide +kernel
theorem dX10_fineDarkShips_22 : decode cX10_fineDarkShips 22 = .ok (.iload_n 2, 1) := by decide +kernel
theorem dX10_fineDarkShips_23 : decode cX10_fineDarkShips 23 = .ok (.ifCond .le 62, 3) := by decide +kernel
theorem dX10_fineDarkShips_26 : decode cX10_fineDarkShips 26 = .ok (.aload_n 0, 1) := by decide +kernel
theorem dX10_fineDarkShips_27 : decode cX10_fineDarkShips 27 = .ok (.getfield 21, 3) := by decide +kernel
theorem dX10_fineDarkShips_30 : decode cX10_fineDarkShips 30 = .ok (.iload_n 1, 1) := by decide +kernel
theorem dX10_fineDarkShips_31 : decode cX10_fineDarkShips 31 = .ok (.invokevirtual 131, 3) := by decide +kernel
theorem dX10_fineDarkShips_34 : decode cX10_fineDarkShips 34 = .ok (.ifCond .ne 51, 3) := by decide +kernel
theorem dX10_fineDarkShips_37 : decode cX10_fineDarkShips 37 = .ok (.iconst 2, 1) := by decide +kernel
theorem dX10_fineDarkShips_38 : decode cX10_fineDarkShips 38 = .ok (.iload_n 2, 1) := by decide +kernel
theorem dX10_fineDarkShips_39 : decode cX10_fineDarkShips 39 = .ok (.imul, 1) := by decide +kernel
theorem dX10_fineDarkShips_40 : decode cX10_fineDarkShips 40 = .ok (.aload_n 0, 1) := by decide +kernel
theorem dX10_fineDarkShips_41 : decode cX10_fineDarkShips 41 = .ok (.getfield 12, 3) := by decide +kernel
theorem dX10_fineDarkShips_44 : decode cX10_fineDarkShips 44 = .ok (.getfield 80, 3) := by decide +kernel
theorem dX10_fineDarkShips_47 : decode cX10_fineDarkShips 47 = .ok (.iload_n 1, 1) := by decide +kernel
theorem dX10_fineDarkShips_48 : decode cX10_fineDarkShips 48 = .ok (.iaload, 1) := by decide +kernel
theorem dX10_fineDarkShips_49 : decode cX10_fineDarkShips 49 = .ok (.invokestatic 134, 3) := by decide +kernel
theorem dX10_fineDarkShips_52 : decode cX10_fineDarkShips 52 = .ok (.istore_n 3, 1) := by decide +kernel
theorem dX10_fineDarkShips_53 : decode cX10_fineDarkShips 53 = .ok (.aload_n 0, 1) := by decide +kernel
theorem dX10_fineDarkShips_54 : decode cX10_fineDarkShips 54 = .ok (.iload_n 1, 1) := by decide +kernel
theorem dX10_fineDarkShips_55 : decode cX10_fineDarkShips 55 = .ok (.iload_n 3, 1) := by decide +kernel
theorem dX10_fineDarkShips_56 : decode cX10_fineDarkShips 56 = .ok (.invokevirtual 67, 3) := by decide +kernel
theorem dX10_fineDarkShips_59 : decode cX10_fineDarkShips 59 = .ok (.aload_n 0, 1) := by decide +kernel
theorem dX10_fineDarkShips_60 : decode cX10_fineDarkShips 60 = .ok (.getfield 12, 3) := by decide +kernel
theorem dX10_fineDarkShips_63 : decode cX10_fineDarkShips 63 = .ok (.getfield 139, 3) := by decide +kernel
theorem dX10_fineDarkShips_66 : decode cX10_fineDarkShips 66 = .ok (.iload_n 1, 1) := by decide +kernel
theorem dX10_fineDarkShips_67 : decode cX10_fineDarkShips 67 = .ok (.dup2, 1) := by decide +kernel
theorem dX10_fineDarkShips_68 : decode cX10_fineDarkShips 68 = .ok (.iaload, 1) := by decide +kernel
theorem dX10_fineDarkShips_69 : decode cX10_fineDarkShips 69 = .ok (.iload_n 3, 1) := by decide +kernel
theorem dX10_fineDarkShips_70 : decode cX10_fineDarkShips 70 = .ok (.iadd, 1) := by decide +kernel
theorem dX10_fineDarkShips_71 : decode cX10_fineDarkShips 71 = .ok (.iastore, 1) := by decide +kernel
theorem dX10_fineDarkShips_72 : decode cX10_fineDarkShips 72 = .ok (.aload_n 0, 1) := by decide +kernel
theorem dX10_fineDarkShips_73 : decode cX10_fineDarkShips 73 = .ok (.getfield 12, 3) := by decide +kernel
theorem dX10_fineDarkShips_76 : decode cX10_fineDarkShips 76 = .ok (.getfield 142, 3) := by decide +kernel
theorem dX10_fineDarkShips_79 : decode cX10_fineDarkShips 79 = .ok (.iload_n 1, 1) := by decide +kernel
theorem dX10_fineDarkShips_80 : decode cX10_fineDarkShips 80 = .ok (.dup2, 1) := by decide +kernel
theorem dX10_fineDarkShips_81 : decode cX10_fineDarkShips 81 = .ok (.iaload, 1) := by decide +kernel
theorem dX10_fineDarkShips_82 : decode cX10_fineDarkShips 82 = .ok (.iconst 1, 1) := by decide +kernel
theorem dX10_fineDarkShips_83 : decode cX10_fineDarkShips 83 = .ok (.iadd, 1) := by decide +kernel
theorem dX10_fineDarkShips_84 : decode cX10_fineDarkShips 84 = .ok (.iastore, 1) := by decide +kernel
theorem dX10_fineDarkShips_85 : decode cX10_fineDarkShips 85 = .ok (.iinc 1 1, 3) := by decide +kernel
theorem dX10_fineDarkShips_88 : decode cX10_fineDarkShips 88 = .ok (.goto (-86), 3) := by decide +kernel
theorem dX10_fineDarkShips_91 : decode cX10_fineDarkShips 91 = .ok (.return_, 1) := by decide +kernel
theorem dX10_endLeases_0 : decode cX10_endLeases 0 = .ok (.iconst 0, 1) := by decide +kernel
theorem dX10_endLeases_1 : decode cX10_endLeases 1 = .ok (.istore_n 1, 1) := by decide +kernel
theorem dX10_endLeases_2 : decode cX10_endLeases 2 = .ok (.iconst 0, 1) := by decide +kernel
theorem dX10_endLeases_3 : decode cX10_endLeases 3 = .ok (.istore_n 2, 1) := by decide +kernel
theorem dX10_endLeases_4 : decode cX10_endLeases 4 = .ok (.iload_n 2, 1) := by decide +kernel
theorem dX10_endLeases_5 : decode cX10_endLeases 5 = .ok (.aload_n 0, 1) := by decide +kernel
theorem dX10_endLeases_6 : decode cX10_endLeases 6 = .ok (.getfield 21, 3) := by decide +kernel
theorem dX10_endLeases_9 : decode cX10_endLeases 9 = .ok (.getfield 36, 3) := by decide +kernel
theorem dX10_endLeases_12 : decode cX10_endLeases 12 = .ok (.if_icmp .ge 45, 3) := by decide +kernel
theorem dX10_endLeases_15 : decode cX10_endLeases 15 = .ok (.aload_n 0, 1) := by decide +kernel
theorem dX10_endLeases_16 : decode cX10_endLeases 16 = .ok (.getfield 21, 3) := by decide +kernel
theorem dX10_endLeases_19 : decode cX10_endLeases 19 = .ok (.iload_n 2, 1) := by decide +kernel
theorem dX10_endLeases_20 : decode cX10_endLeases 20 = .ok (.invokevirtual 48, 3) := by decide +kernel
theorem dX10_endLeases_23 : decode cX10_endLeases 23 = .ok (.ifCond .eq 28, 3) := by decide +kernel
theorem dX10_endLeases_26 : decode cX10_endLeases 26 = .ok (.aload_n 0, 1) := by decide +kernel
theorem dX10_endLeases_27 : decode cX10_endLeases 27 = .ok (.getfield 21, 3) := by decide +kernel
theorem dX10_endLeases_30 : decode cX10_endLeases 30 = .ok (.getfield 74, 3) := by decide +kernel
theorem dX10_endLeases_33 : decode cX10_endLeases 33 = .ok (.iload_n 2, 1) := by decide +kernel
theorem dX10_endLeases_34 : decode cX10_endLeases 34 = .ok (.iaload, 1) := by decide +kernel
theorem dX10_endLeases_35 : decode cX10_endLeases 35 = .ok (.aload_n 0, 1) := by decide +kernel
theorem dX10_endLeases_36 : decode cX10_endLeases 36 = .ok (.getfield 77, 3) := by decide +kernel
theorem dX10_endLeases_39 : decode cX10_endLeases 39 = .ok (.if_icmp .ne 12, 3) := by decide +kernel
theorem dX10_endLeases_42 : decode cX10_endLeases 42 = .ok (.aload_n 0, 1) := by decide +kernel
theorem dX10_endLeases_43 : decode cX10_endLeases 43 = .ok (.iload_n 2, 1) := by decide +kernel
theorem dX10_endLeases_44 : decode cX10_endLeases 44 = .ok (.invokevirtual 145, 3) := by decide +kernel
theorem dX10_endLeases_47 : decode cX10_endLeases 47 = .ok (.pop, 1) := by decide +kernel
theorem dX10_endLeases_48 : decode cX10_endLeases 48 = .ok (.iinc 1 1, 3) := by decide +kernel
theorem dX10_endLeases_51 : decode cX10_endLeases 51 = .ok (.iinc 2 1, 3) := by decide +kernel
theorem dX10_endLeases_54 : decode cX10_endLeases 54 = .ok (.goto (-50), 3) := by decide +kernel
theorem dX10_endLeases_57 : decode cX10_endLeases 57 = .ok (.iload_n 1, 1) := by decide +kernel
theorem dX10_endLeases_58 : decode cX10_endLeases 58 = .ok (.ireturn, 1) := by decide +kernel
theorem dX10_copyFrom_0 : decode cX10_copyFrom 0 = .ok (.aload_n 0, 1) := by decide +kernel
theorem dX10_copyFrom_1 : decode cX10_copyFrom 1 = .ok (.getfield 12, 3) := by decide +kernel
theorem dX10_copyFrom_4 : decode cX10_copyFrom 4 = .ok (.aload_n 1, 1) := by decide +kernel
theorem dX10_copyFrom_5 : decode cX10_copyFrom 5 = .ok (.getfield 12, 3) := by decide +kernel
theorem dX10_copyFrom_8 : decode cX10_copyFrom 8 = .ok (.invokevirtual 148, 3) := by decide +kernel
theorem dX10_copyFrom_11 : decode cX10_copyFrom 11 = .ok (.aload_n 0, 1) := by decide +kernel
theorem dX10_copyFrom_12 : decode cX10_copyFrom 12 = .ok (.getfield 21, 3) := by decide +kernel
theorem dX10_copyFrom_15 : decode cX10_copyFrom 15 = .ok (.aload_n 1, 1) := by decide +kernel
theorem dX10_copyFrom_16 : decode cX10_copyFrom 16 = .ok (.getfield 21, 3) := by decide +kernel
theorem dX10_copyFrom_19 : decode cX10_copyFrom 19 = .ok (.invokevirtual 152, 3) := by decide +kernel
theorem dX10_copyFrom_22 : decode cX10_copyFrom 22 = .ok (.aload_n 0, 1) := by decide +kernel
theorem dX10_copyFrom_23 : decode cX10_copyFrom 23 = .ok (.getfield 28, 3) := by decide +kernel
theorem dX10_copyFrom_26 : decode cX10_copyFrom 26 = .ok (.aload_n 1, 1) := by decide +kernel
theorem dX10_copyFrom_27 : decode cX10_copyFrom 27 = .ok (.getfield 28, 3) := by decide +kernel
theorem dX10_copyFrom_30 : decode cX10_copyFrom 30 = .ok (.invokevirtual 155, 3) := by decide +kernel
theorem dX10_copyFrom_33 : decode cX10_copyFrom 33 = .ok (.aload_n 0, 1) := by decide +kernel
theorem dX10_copyFrom_34 : decode cX10_copyFrom 34 = .ok (.aload_n 1, 1) := by decide +kernel
theorem dX10_copyFrom_35 : decode cX10_copyFrom 35 = .ok (.getfield 37, 3) := by decide +kernel
theorem dX10_copyFrom_38 : decode cX10_copyFrom 38 = .ok (.putfield 37, 3) := by decide +kernel
theorem dX10_copyFrom_41 : decode cX10_copyFrom 41 = .ok (.aload_n 0, 1) := by decide +kernel
theorem dX10_copyFrom_42 : decode cX10_copyFrom 42 = .ok (.aload_n 1, 1) := by decide +kernel
theorem dX10_copyFrom_43 : decode cX10_copyFrom 43 = .ok (.getfield 77, 3) := by decide +kernel
theorem dX10_copyFrom_46 : decode cX10_copyFrom 46 = .ok (.putfield 77, 3) := by decide +kernel
theorem dX10_copyFrom_49 : decode cX10_copyFrom 49 = .ok (.aload_n 0, 1) := by decide +kernel
theorem dX10_copyFrom_50 : decode cX10_copyFrom 50 = .ok (.aload_n 1, 1) := by decide +kernel
theorem dX10_copyFrom_51 : decode cX10_copyFrom 51 = .ok (.getfield 83, 3) := by decide +kernel
theorem dX10_copyFrom_54 : decode cX10_copyFrom 54 = .ok (.putfield 83, 3) := by decide +kernel
theorem dX10_copyFrom_57 : decode cX10_copyFrom 57 = .ok (.aload_n 0, 1) := by decide +kernel
theorem dX10_copyFrom_58 : decode cX10_copyFrom 58 = .ok (.aload_n 1, 1) := by decide +kernel
theorem dX10_copyFrom_59 : decode cX10_copyFrom 59 = .ok (.getfield 118, 3) := by decide +kernel
theorem dX10_copyFrom_62 : decode cX10_copyFrom 62 = .ok (.putfield 118, 3) := by decide +kernel
theorem dX10_copyFrom_65 : decode cX10_copyFrom 65 = .ok (.return_, 1) := by decide +kernel
theorem dX11_init_0 : decode cX11_init 0 = .ok (.aload_n 0, 1) := by decide +kernel
theorem dX11_init_1 : decode cX11_init 1 = .ok (.invokespecial 3, 3) := by decide +kernel
theorem dX11_init_4 : decode cX11_init 4 = .ok (.aload_n 0, 1) := by decide +kernel
theorem dX11_init_5 : decode cX11_init 5 = .ok (.new 9, 3) := by decide +kernel
theorem dX11_init_8 : decode cX11_init 8 = .ok (.dup, 1) := by decide +kernel
theorem dX11_init_9 : decode cX11_init 9 = .ok (.invokespecial 11, 3) := by decide +kernel
theorem dX11_init_12 : decode cX11_init 12 = .ok (.putfield 12, 3) := by decide +kernel
theorem dX11_init_15 : decode cX11_init 15 = .ok (.aload_n 0, 1) := by decide +kernel
theorem dX11_init_16 : decode cX11_init 16 = .ok (.new 9, 3) := by decide +kernel
theorem dX11_init_19 : decode cX11_init 19 = .ok (.dup, 1) := by decide +kernel
theorem dX11_init_20 : decode cX11_init 20 = .ok (.invokespecial 11, 3) := by decide +kernel
theorem dX11_init_23 : decode cX11_init 23 = .ok (.putfield 16, 3) := by decide +kernel
theorem dX11_init_26 : decode cX11_init 26 = .ok (.aload_n 0, 1) := by decide +kernel
theorem dX11_init_27 : decode cX11_init 27 = .ok (.new 9, 3) := by decide +kernel
theorem dX11_init_30 : decode cX11_init 30 = .ok (.dup, 1) := by decide +kernel
theorem dX11_init_31 : decode cX11_init 31 = .ok (.invokespecial 11, 3) := by decide +kernel
theorem dX11_init_34 : decode cX11_init 34 = .ok (.putfield 19, 3) := by decide +kernel
theorem dX11_init_37 : decode cX11_init 37 = .ok (.aload_n 0, 1) := by decide +kernel
theorem dX11_init_38 : decode cX11_init 38 = .ok (.new 22, 3) := by decide +kernel
theorem dX11_init_41 : decode cX11_init 41 = .ok (.dup, 1) := by decide +kernel
theorem dX11_init_42 : decode cX11_init 42 = .ok (.invokespecial 24, 3) := by decide +kernel
theorem dX11_init_45 : decode cX11_init 45 = .ok (.putfield 25, 3) := by decide +kernel
theorem dX11_init_48 : decode cX11_init 48 = .ok (.aload_n 0, 1) := by decide +kernel
theorem dX11_init_49 : decode cX11_init 49 = .ok (.new 29, 3) := by decide +kernel
theorem dX11_init_52 : decode cX11_init 52 = .ok (.dup, 1) := by decide +kernel
theorem dX11_init_53 : decode cX11_init 53 = .ok (.invokespecial 31, 3) := by decide +kernel
theorem dX11_init_56 : decode cX11_init 56 = .ok (.putfield 32, 3) := by decide +kernel
theorem dX11_init_59 : decode cX11_init 59 = .ok (.aload_n 0, 1) := by decide +kernel
theorem dX11_init_60 : decode cX11_init 60 = .ok (.new 36, 3) := by decide +kernel
theorem dX11_init_63 : decode cX11_init 63 = .ok (.dup, 1) := by decide +kernel
theorem dX11_init_64 : decode cX11_init 64 = .ok (.invokespecial 38, 3) := by decide +kernel
theorem dX11_init_67 : decode cX11_init 67 = .ok (.putfield 39, 3) := by decide +kernel
theorem dX11_init_70 : decode cX11_init 70 = .ok (.aload_n 0, 1) := by decide +kernel
theorem dX11_init_71 : decode cX11_init 71 = .ok (.new 43, 3) := by decide +kernel
theorem dX11_init_74 : decode cX11_init 74 = .ok (.dup, 1) := by decide +kernel
theorem dX11_init_75 : decode cX11_init 75 = .ok (.invokespecial 45, 3) := by decide +kernel
theorem dX11_init_78 : decode cX11_init 78 = .ok (.putfield 46, 3) := by decide +kernel
theorem dX11_init_81 : decode cX11_init 81 = .ok (.aload_n 0, 1) := by decide +kernel
theorem dX11_init_82 : decode cX11_init 82 = .ok (.new 50, 3) := by decide +kernel
theorem dX11_init_85 : decode cX11_init 85 = .ok (.dup, 1) := by decide +kernel
theorem dX11_init_86 : decode cX11_init 86 = .ok (.invokespecial 52, 3) := by decide +kernel
theorem dX11_init_89 : decode cX11_init 89 = .ok (.putfield 53, 3) := by decide +kernel
theorem dX11_init_92 : decode cX11_init 92 = .ok (.aload_n 0, 1) := by decide +kernel
theorem dX11_init_93 : decode cX11_init 93 = .ok (.iconst (-1), 1) := by decide +kernel
theorem dX11_init_94 : decode cX11_init 94 = .ok (.putfield 57, 3) := by decide +kernel
theorem dX11_init_97 : decode cX11_init 97 = .ok (.aload_n 0, 1) := by decide +kernel
theorem dX11_init_98 : decode cX11_init 98 = .ok (.iconst (-1), 1) := by decide +kernel
theorem dX11_init_99 : decode cX11_init 99 = .ok (.putfield 61, 3) := by decide +kernel
theorem dX11_init_102 : decode cX11_init 102 = .ok (.aload_n 0, 1) := by decide +kernel
theorem dX11_init_103 : decode cX11_init 103 = .ok (.bipush 32, 2) := by decide +kernel
theorem dX11_init_105 : decode cX11_init 105 = .ok (.putfield 64, 3) := by decide +kernel
theorem dX11_init_108 : decode cX11_init 108 = .ok (.return_, 1) := by decide +kernel
theorem dX11_addShip_0 : decode cX11_addShip 0 = .ok (.aload_n 0, 1) := by decide +kernel
theorem dX11_addShip_1 : decode cX11_addShip 1 = .ok (.getfield 12, 3) := by decide +kernel
theorem dX11_addShip_4 : decode cX11_addShip 4 = .ok (.invokevirtual 68, 3) := by decide +kernel
theorem dX11_addShip_7 : decode cX11_addShip 7 = .ok (.invokestatic 72, 3) := by decide +kernel
theorem dX11_addShip_10 : decode cX11_addShip 10 = .ok (.aload_n 0, 1) := by decide +kernel
theorem dX11_addShip_11 : decode cX11_addShip 11 = .ok (.getfield 25, 3) := by decide +kernel
theorem dX11_addShip_14 : decode cX11_addShip 14 = .ok (.aload_n 0, 1) := by decide +kernel
theorem dX11_addShip_15 : decode cX11_addShip 15 = .ok (.getfield 12, 3) := by decide +kernel
theorem dX11_addShip_18 : decode cX11_addShip 18 = .ok (.invokevirtual 76, 3) := by decide +kernel
theorem dX11_addShip_21 : decode cX11_addShip 21 = .ok (.aload_n 0, 1) := by decide +kernel
theorem dX11_addShip_22 : decode cX11_addShip 22 = .ok (.getfield 12, 3) := by decide +kernel
theorem dX11_addShip_25 : decode cX11_addShip 25 = .ok (.getfield 80, 3) := by decide +kernel
theorem dX11_addShip_28 : decode cX11_addShip 28 = .ok (.invokevirtual 84, 3) := by decide +kernel
theorem dX11_addShip_31 : decode cX11_addShip 31 = .ok (.ireturn, 1) := by decide +kernel
theorem dX11_addLamp_0 : decode cX11_addLamp 0 = .ok (.aload_n 0, 1) := by decide +kernel
theorem dX11_addLamp_1 : decode cX11_addLamp 1 = .ok (.getfield 12, 3) := by decide +kernel
theorem dX11_addLamp_4 : decode cX11_addLamp 4 = .ok (.iload_n 1, 1) := by decide +kernel
theorem dX11_addLamp_5 : decode cX11_addLamp 5 = .ok (.invokevirtual 90, 3) := by decide +kernel
theorem dX11_addLamp_8 : decode cX11_addLamp 8 = .ok (.invokestatic 72, 3) := by decide +kernel
theorem dX11_addLamp_11 : decode cX11_addLamp 11 = .ok (.aload_n 0, 1) := by decide +kernel
theorem dX11_addLamp_12 : decode cX11_addLamp 12 = .ok (.getfield 25, 3) := by decide +kernel
theorem dX11_addLamp_15 : decode cX11_addLamp 15 = .ok (.aload_n 0, 1) := by decide +kernel
theorem dX11_addLamp_16 : decode cX11_addLamp 16 = .ok (.getfield 12, 3) := by decide +kernel
theorem dX11_addLamp_19 : decode cX11_addLamp 19 = .ok (.invokevirtual 76, 3) := by decide +kernel
theorem dX11_addLamp_22 : decode cX11_addLamp 22 = .ok (.aload_n 0, 1) := by decide +kernel
theorem dX11_addLamp_23 : decode cX11_addLamp 23 = .ok (.getfield 12, 3) := by decide +kernel
theorem dX11_addLamp_26 : decode cX11_addLamp 26 = .ok (.getfield 94, 3) := by decide +kernel
theorem dX11_addLamp_29 : decode cX11_addLamp 29 = .ok (.iload_n 1, 1) := by decide +kernel
theorem dX11_addLamp_30 : decode cX11_addLamp 30 = .ok (.invokevirtual 98, 3) := by decide +kernel
theorem dX11_addLamp_33 : decode cX11_addLamp 33 = .ok (.ireturn, 1) := by decide +kernel
theorem dX11_addOil_0 : decode cX11_addOil 0 = .ok (.aload_n 0, 1) := by decide +kernel
theorem dX11_addOil_1 : decode cX11_addOil 1 = .ok (.getfield 12, 3) := by decide +kernel
theorem dX11_addOil_4 : decode cX11_addOil 4 = .ok (.iload_n 1, 1) := by decide +kernel
theorem dX11_addOil_5 : decode cX11_addOil 5 = .ok (.invokevirtual 103, 3) := by decide +kernel
theorem dX11_addOil_8 : decode cX11_addOil 8 = .ok (.invokestatic 72, 3) := by decide +kernel
theorem dX11_addOil_11 : decode cX11_addOil 11 = .ok (.aload_n 0, 1) := by decide +kernel
theorem dX11_addOil_12 : decode cX11_addOil 12 = .ok (.getfield 25, 3) := by decide +kernel
theorem dX11_addOil_15 : decode cX11_addOil 15 = .ok (.aload_n 0, 1) := by decide +kernel
theorem dX11_addOil_16 : decode cX11_addOil 16 = .ok (.getfield 12, 3) := by decide +kernel
theorem dX11_addOil_19 : decode cX11_addOil 19 = .ok (.invokevirtual 76, 3) := by decide +kernel
theorem dX11_addOil_22 : decode cX11_addOil 22 = .ok (.aload_n 0, 1) := by decide +kernel
theorem dX11_addOil_23 : decode cX11_addOil 23 = .ok (.getfield 12, 3) := by decide +kernel
theorem dX11_addOil_26 : decode cX11_addOil 26 = .ok (.iload_n 1, 1) := by decide +kernel
theorem dX11_addOil_27 : decode cX11_addOil 27 = .ok (.invokevirtual 106, 3) := by decide +kernel
theorem dX11_addOil_30 : decode cX11_addOil 30 = .ok (.ireturn, 1) := by decide +kernel
theorem dX11_lease_0 : decode cX11_lease 0 = .ok (.aload_n 0, 1) := by decide +kernel
theorem dX11_lease_1 : decode cX11_lease 1 = .ok (.getfield 12, 3) := by decide +kernel
theorem dX11_lease_4 : decode cX11_lease 4 = .ok (.iload_n 1, 1) := by decide +kernel
theorem dX11_lease_5 : decode cX11_lease 5 = .ok (.iload_n 2, 1) := by decide +kernel
theorem dX11_lease_6 : decode cX11_lease 6 = .ok (.iload_n 3, 1) := by decide +kernel
theorem dX11_lease_7 : decode cX11_lease 7 = .ok (.invokevirtual 109, 3) := by decide +kernel
theorem dX11_lease_10 : decode cX11_lease 10 = .ok (.invokestatic 72, 3) := by decide +kernel
theorem dX11_lease_13 : decode cX11_lease 13 = .ok (.aload_n 0, 1) := by decide +kernel
theorem dX11_lease_14 : decode cX11_lease 14 = .ok (.getfield 25, 3) := by decide +kernel
theorem dX11_lease_17 : decode cX11_lease 17 = .ok (.aload_n 0, 1) := by decide +kernel
theorem dX11_lease_18 : decode cX11_lease 18 = .ok (.getfield 12, 3) := by decide +kernel
theorem dX11_lease_21 : decode cX11_lease 21 = .ok (.invokevirtual 76, 3) := by decide +kernel
theorem dX11_lease_24 : decode cX11_lease 24 = .ok (.aload_n 0, 1) := by decide +kernel
theorem dX11_lease_25 : decode cX11_lease 25 = .ok (.getfield 12, 3) := by decide +kernel
theorem dX11_lease_28 : decode cX11_lease 28 = .ok (.iload_n 1, 1) := by decide +kernel
theorem dX11_lease_29 : decode cX11_lease 29 = .ok (.iload_n 2, 1) := by decide +kernel
theorem dX11_lease_30 : decode cX11_lease 30 = .ok (.iload_n 3, 1) := by decide +kernel
theorem dX11_lease_31 : decode cX11_lease 31 = .ok (.invokevirtual 113, 3) := by decide +kernel
theorem dX11_lease_34 : decode cX11_lease 34 = .ok (.ireturn, 1) := by decide +kernel
theorem dX11_requestRenewal_0 : decode cX11_requestRenewal 0 = .ok (.aload_n 0, 1) := by decide +kernel
theorem dX11_requestRenewal_1 : decode cX11_requestRenewal 1 = .ok (.getfield 12, 3) := by decide +kernel
theorem dX11_requestRenewal_4 : decode cX11_requestRenewal 4 = .ok (.iload_n 1, 1) := by decide +kernel
theorem dX11_requestRenewal_5 : decode cX11_requestRenewal 5 = .ok (.iload_n 2, 1) := by decide +kernel
theorem dX11_requestRenewal_6 : decode cX11_requestRenewal 6 = .ok (.invokevirtual 117, 3) := by decide +kernel
theorem dX11_requestRenewal_9 : decode cX11_requestRenewal 9 = .ok (.invokestatic 72, 3) := by decide +kernel
theorem dX11_requestRenewal_12 : decode cX11_requestRenewal 12 = .ok (.aload_n 0, 1) := by decide +kernel
theorem dX11_requestRenewal_13 : decode cX11_requestRenewal 13 = .ok (.getfield 25, 3) := by decide +kernel
theorem dX11_requestRenewal_16 : decode cX11_requestRenewal 16 = .ok (.aload_n 0, 1) := by decide +kernel
theorem dX11_requestRenewal_17 : decode cX11_requestRenewal 17 = .ok (.getfield 12, 3) := by decide +kernel
theorem dX11_requestRenewal_20 : decode cX11_requestRenewal 20 = .ok (.invokevirtual 76, 3) := by decide +kernel
theorem dX11_requestRenewal_23 : decode cX11_requestRenewal 23 = .ok (.aload_n 0, 1) := by decide +kernel
theorem dX11_requestRenewal_24 : decode cX11_requestRenewal 24 = .ok (.getfield 12, 3) := by decide +kernel
theorem dX11_requestRenewal_27 : decode cX11_requestRenewal 27 = .ok (.getfield 121, 3) := by decide +kernel
theorem dX11_requestRenewal_30 : decode cX11_requestRenewal 30 = .ok (.iload_n 1, 1) := by decide +kernel
theorem dX11_requestRenewal_31 : decode cX11_requestRenewal 31 = .ok (.iload_n 2, 1) := by decide +kernel
theorem dX11_requestRenewal_32 : decode cX11_requestRenewal 32 = .ok (.invokevirtual 125, 3) := by decide +kernel
theorem dX11_requestRenewal_35 : decode cX11_requestRenewal 35 = .ok (.ireturn, 1) := by decide +kernel
theorem dX11_giveUp_0 : decode cX11_giveUp 0 = .ok (.aload_n 0, 1) := by decide +kernel
theorem dX11_giveUp_1 : decode cX11_giveUp 1 = .ok (.getfield 12, 3) := by decide +kernel
theorem dX11_giveUp_4 : decode cX11_giveUp 4 = .ok (.iload_n 1, 1) := by decide +kernel
theorem dX11_giveUp_5 : decode cX11_giveUp 5 = .ok (.invokevirtual 130, 3) := by decide +kernel
theorem dX11_giveUp_8 : decode cX11_giveUp 8 = .ok (.invokestatic 72, 3) := by decide +kernel
theorem dX11_giveUp_11 : decode cX11_giveUp 11 = .ok (.aload_n 0, 1) := by decide +kernel
theorem dX11_giveUp_12 : decode cX11_giveUp 12 = .ok (.getfield 25, 3) := by decide +kernel
theorem dX11_giveUp_15 : decode cX11_giveUp 15 = .ok (.aload_n 0, 1) := by decide +kernel
theorem dX11_giveUp_16 : decode cX11_giveUp 16 = .ok (.getfield 12, 3) := by decide +kernel
theorem dX11_giveUp_19 : decode cX11_giveUp 19 = .ok (.invokevirtual 76, 3) := by decide +kernel
theorem dX11_giveUp_22 : decode cX11_giveUp 22 = .ok (.aload_n 0, 1) := by decide +kernel
theorem dX11_giveUp_23 : decode cX11_giveUp 23 = .ok (.getfield 12, 3) := by decide +kernel
theorem dX11_giveUp_26 : decode cX11_giveUp 26 = .ok (.iload_n 1, 1) := by decide +kernel
theorem dX11_giveUp_27 : decode cX11_giveUp 27 = .ok (.invokevirtual 133, 3) := by decide +kernel
theorem dX11_giveUp_30 : decode cX11_giveUp 30 = .ok (.ireturn, 1) := by decide +kernel
theorem dX11_passHours_0 : decode cX11_passHours 0 = .ok (.aload_n 0, 1) := by decide +kernel
theorem dX11_passHours_1 : decode cX11_passHours 1 = .ok (.getfield 12, 3) := by decide +kernel
theorem dX11_passHours_4 : decode cX11_passHours 4 = .ok (.iload_n 1, 1) := by decide +kernel
theorem dX11_passHours_5 : decode cX11_passHours 5 = .ok (.invokevirtual 136, 3) := by decide +kernel
theorem dX11_passHours_8 : decode cX11_passHours 8 = .ok (.invokestatic 72, 3) := by decide +kernel
theorem dX11_passHours_11 : decode cX11_passHours 11 = .ok (.aload_n 0, 1) := by decide +kernel
theorem dX11_passHours_12 : decode cX11_passHours 12 = .ok (.getfield 25, 3) := by decide +kernel
theorem dX11_passHours_15 : decode cX11_passHours 15 = .ok (.aload_n 0, 1) := by decide +kernel
theorem dX11_passHours_16 : decode cX11_passHours 16 = .ok (.getfield 12, 3) := by decide +kernel
theorem dX11_passHours_19 : decode cX11_passHours 19 = .ok (.invokevirtual 76, 3) := by decide +kernel
theorem dX11_passHours_22 : decode cX11_passHours 22 = .ok (.aload_n 0, 1) := by decide +kernel
theorem dX11_passHours_23 : decode cX11_passHours 23 = .ok (.getfield 12, 3) := by decide +kernel
theorem dX11_passHours_26 : decode cX11_passHours 26 = .ok (.iload_n 1, 1) := by decide +kernel
theorem dX11_passHours_27 : decode cX11_passHours 27 = .ok (.invokevirtual 139, 3) := by decide +kernel
theorem dX11_passHours_30 : decode cX11_passHours 30 = .ok (.ireturn, 1) := by decide +kernel
theorem dX11_hour_0 : decode cX11_hour 0 = .ok (.aload_n 0, 1) := by decide +kernel
theorem dX11_hour_1 : decode cX11_hour 1 = .ok (.getfield 12, 3) := by decide +kernel
theorem dX11_hour_4 : decode cX11_hour 4 = .ok (.getfield 142, 3) := by decide +kernel
theorem dX11_hour_7 : decode cX11_hour 7 = .ok (.ireturn, 1) := by decide +kernel
theorem dX11_shipCount_0 : decode cX11_shipCount 0 = .ok (.aload_n 0, 1) := by decide +kernel
theorem dX11_shipCount_1 : decode cX11_shipCount 1 = .ok (.getfield 12, 3) := by decide +kernel
theorem dX11_shipCount_4 : decode cX11_shipCount 4 = .ok (.getfield 80, 3) := by decide +kernel
theorem dX11_shipCount_7 : decode cX11_shipCount 7 = .ok (.getfield 145, 3) := by decide +kernel
theorem dX11_shipCount_10 : decode cX11_shipCount 10 = .ok (.ireturn, 1) := by decide +kernel
theorem dX11_coins_0 : decode cX11_coins 0 = .ok (.aload_n 0, 1) := by decide +kernel
theorem dX11_coins_1 : decode cX11_coins 1 = .ok (.iload_n 1, 1) := by decide +kernel
theorem dX11_coins_2 : decode cX11_coins 2 = .ok (.invokevirtual 148, 3) := by decide +kernel
theorem dX11_coins_5 : decode cX11_coins 5 = .ok (.aload_n 0, 1) := by decide +kernel
theorem dX11_coins_6 : decode cX11_coins 6 = .ok (.getfield 12, 3) := by decide +kernel
theorem dX11_coins_9 : decode cX11_coins 9 = .ok (.getfield 80, 3) := by decide +kernel
theorem dX11_coins_12 : decode cX11_coins 12 = .ok (.getfield 152, 3) := by decide +kernel
theorem dX11_coins_15 : decode cX11_coins 15 = .ok (.iload_n 1, 1) := by decide +kernel
theorem dX11_coins_16 : decode cX11_coins 16 = .ok (.iaload, 1) := by decide +kernel
theorem dX11_coins_17 : decode cX11_coins 17 = .ok (.ireturn, 1) := by decide +kernel
theorem dX11_finesPaid_0 : decode cX11_finesPaid 0 = .ok (.aload_n 0, 1) := by decide +kernel
theorem dX11_finesPaid_1 : decode cX11_finesPaid 1 = .ok (.iload_n 1, 1) := by decide +kernel
theorem dX11_finesPaid_2 : decode cX11_finesPaid 2 = .ok (.invokevirtual 148, 3) := by decide +kernel
theorem dX11_finesPaid_5 : decode cX11_finesPaid 5 = .ok (.aload_n 0, 1) := by decide +kernel
theorem dX11_finesPaid_6 : decode cX11_finesPaid 6 = .ok (.getfield 12, 3) := by decide +kernel
theorem dX11_finesPaid_9 : decode cX11_finesPaid 9 = .ok (.getfield 80, 3) := by decide +kernel
theorem dX11_finesPaid_12 : decode cX11_finesPaid 12 = .ok (.getfield 156, 3) := by decide +kernel
theorem dX11_finesPaid_15 : decode cX11_finesPaid 15 = .ok (.iload_n 1, 1) := by decide +kernel
theorem dX11_finesPaid_16 : decode cX11_finesPaid 16 = .ok (.iaload, 1) := by decide +kernel
theorem dX11_finesPaid_17 : decode cX11_finesPaid 17 = .ok (.ireturn, 1) := by decide +kernel
theorem dX11_darkHours_0 : decode cX11_darkHours 0 = .ok (.aload_n 0, 1) := by decide +kernel
theorem dX11_darkHours_1 : decode cX11_darkHours 1 = .ok (.iload_n 1, 1) := by decide +kernel
theorem dX11_darkHours_2 : decode cX11_darkHours 2 = .ok (.invokevirtual 148, 3) := by decide +kernel
theorem dX11_darkHours_5 : decode cX11_darkHours 5 = .ok (.aload_n 0, 1) := by decide +kernel
theorem dX11_darkHours_6 : decode cX11_darkHours 6 = .ok (.getfield 12, 3) := by decide +kernel
theorem dX11_darkHours_9 : decode cX11_darkHours 9 = .ok (.getfield 80, 3) := by decide +kernel
theorem dX11_darkHours_12 : decode cX11_darkHours 12 = .ok (.getfield 159, 3) := by decide +kernel
theorem dX11_darkHours_15 : decode cX11_darkHours 15 = .ok (.iload_n 1, 1) := by decide +kernel
theorem dX11_darkHours_16 : decode cX11_darkHours 16 = .ok (.iaload, 1) := by decide +kernel
theorem dX11_darkHours_17 : decode cX11_darkHours 17 = .ok (.ireturn, 1) := by decide +kernel
theorem dX11_demand_0 : decode cX11_demand 0 = .ok (.aload_n 0, 1) := by decide +kernel
theorem dX11_demand_1 : decode cX11_demand 1 = .ok (.iload_n 1, 1) := by decide +kernel
theorem dX11_demand_2 : decode cX11_demand 2 = .ok (.invokevirtual 148, 3) := by decide +kernel
theorem dX11_demand_5 : decode cX11_demand 5 = .ok (.aload_n 0, 1) := by decide +kernel
theorem dX11_demand_6 : decode cX11_demand 6 = .ok (.getfield 12, 3) := by decide +kernel
theorem dX11_demand_9 : decode cX11_demand 9 = .ok (.getfield 94, 3) := by decide +kernel
theorem dX11_demand_12 : decode cX11_demand 12 = .ok (.iload_n 1, 1) := by decide +kernel
theorem dX11_demand_13 : decode cX11_demand 13 = .ok (.invokevirtual 162, 3) := by decide +kernel
theorem dX11_demand_16 : decode cX11_demand 16 = .ok (.ireturn, 1) := by decide +kernel
theorem dX11_leasesOf_0 : decode cX11_leasesOf 0 = .ok (.aload_n 0, 1) := by decide +kernel
theorem dX11_leasesOf_1 : decode cX11_leasesOf 1 = .ok (.iload_n 1, 1) := by decide +kernel
theorem dX11_leasesOf_2 : decode cX11_leasesOf 2 = .ok (.invokevirtual 148, 3) := by decide +kernel
theorem dX11_leasesOf_5 : decode cX11_leasesOf 5 = .ok (.aload_n 0, 1) := by decide +kernel
theorem dX11_leasesOf_6 : decode cX11_leasesOf 6 = .ok (.getfield 12, 3) := by decide +kernel
theorem dX11_leasesOf_9 : decode cX11_leasesOf 9 = .ok (.getfield 94, 3) := by decide +kernel
theorem dX11_leasesOf_12 : decode cX11_leasesOf 12 = .ok (.iload_n 1, 1) := by decide +kernel
theorem dX11_leasesOf_13 : decode cX11_leasesOf 13 = .ok (.invokevirtual 165, 3) := by decide +kernel
theorem dX11_leasesOf_16 : decode cX11_leasesOf 16 = .ok (.ireturn, 1) := by decide +kernel
theorem dX11_lampCount_0 : decode cX11_lampCount 0 = .ok (.aload_n 0, 1) := by decide +kernel
theorem dX11_lampCount_1 : decode cX11_lampCount 1 = .ok (.getfield 12, 3) := by decide +kernel
theorem dX11_lampCount_4 : decode cX11_lampCount 4 = .ok (.getfield 94, 3) := by decide +kernel
theorem dX11_lampCount_7 : decode cX11_lampCount 7 = .ok (.getfield 168, 3) := by decide +kernel
theorem dX11_lampCount_10 : decode cX11_lampCount 10 = .ok (.ireturn, 1) := by decide +kernel
theorem dX11_level_0 : decode cX11_level 0 = .ok (.aload_n 0, 1) := by decide +kernel
theorem dX11_level_1 : decode cX11_level 1 = .ok (.iload_n 1, 1) := by decide +kernel
theorem dX11_level_2 : decode cX11_level 2 = .ok (.invokevirtual 169, 3) := by decide +kernel
theorem dX11_level_5 : decode cX11_level 5 = .ok (.aload_n 0, 1) := by decide +kernel
theorem dX11_level_6 : decode cX11_level 6 = .ok (.getfield 12, 3) := by decide +kernel
theorem dX11_level_9 : decode cX11_level 9 = .ok (.getfield 94, 3) := by decide +kernel
theorem dX11_level_12 : decode cX11_level 12 = .ok (.getfield 172, 3) := by decide +kernel
theorem dX11_level_15 : decode cX11_level 15 = .ok (.iload_n 1, 1) := by decide +kernel
theorem dX11_level_16 : decode cX11_level 16 = .ok (.iaload, 1) := by decide +kernel
theorem dX11_level_17 : decode cX11_level 17 = .ok (.ireturn, 1) := by decide +kernel
theorem dX11_isLeased_0 : decode cX11_isLeased 0 = .ok (.aload_n 0, 1) := by decide +kernel
theorem dX11_isLeased_1 : decode cX11_isLeased 1 = .ok (.iload_n 1, 1) := by decide +kernel
theorem dX11_isLeased_2 : decode cX11_isLeased 2 = .ok (.invokevirtual 169, 3) := by decide +kernel
theorem dX11_isLeased_5 : decode cX11_isLeased 5 = .ok (.aload_n 0, 1) := by decide +kernel
theorem dX11_isLeased_6 : decode cX11_isLeased 6 = .ok (.getfield 12, 3) := by decide +kernel
theorem dX11_isLeased_9 : decode cX11_isLeased 9 = .ok (.getfield 94, 3) := by decide +kernel
theorem dX11_isLeased_12 : decode cX11_isLeased 12 = .ok (.iload_n 1, 1) := by decide +kernel
theorem dX11_isLeased_13 : decode cX11_isLeased 13 = .ok (.invokevirtual 175, 3) := by decide +kernel
theorem dX11_isLeased_16 : decode cX11_isLeased 16 = .ok (.ireturn, 1) := by decide +kernel
theorem dX11_lessee_0 : decode cX11_lessee 0 = .ok (.aload_n 0, 1) := by decide +kernel
theorem dX11_lessee_1 : decode cX11_lessee 1 = .ok (.getfield 12, 3) := by decide +kernel
theorem dX11_lessee_4 : decode cX11_lessee 4 = .ok (.iload_n 1, 1) := by decide +kernel
theorem dX11_lessee_5 : decode cX11_lessee 5 = .ok (.invokevirtual 130, 3) := by decide +kernel
theorem dX11_lessee_8 : decode cX11_lessee 8 = .ok (.invokestatic 72, 3) := by decide +kernel
theorem dX11_lessee_11 : decode cX11_lessee 11 = .ok (.aload_n 0, 1) := by decide +kernel
theorem dX11_lessee_12 : decode cX11_lessee 12 = .ok (.getfield 12, 3) := by decide +kernel
theorem dX11_lessee_15 : decode cX11_lessee 15 = .ok (.getfield 94, 3) := by decide +kernel
theorem dX11_lessee_18 : decode cX11_lessee 18 = .ok (.getfield 179, 3) := by decide +kernel
theorem dX11_lessee_21 : decode cX11_lessee 21 = .ok (.iload_n 1, 1) := by decide +kernel
theorem dX11_lessee_22 : decode cX11_lessee 22 = .ok (.iaload, 1) := by decide +kernel
theorem dX11_lessee_23 : decode cX11_lessee 23 = .ok (.ireturn, 1) := by decide +kernel
theorem dX11_endHour_0 : decode cX11_endHour 0 = .ok (.aload_n 0, 1) := by decide +kernel
theorem dX11_endHour_1 : decode cX11_endHour 1 = .ok (.getfield 12, 3) := by decide +kernel
theorem dX11_endHour_4 : decode cX11_endHour 4 = .ok (.iload_n 1, 1) := by decide +kernel
theorem dX11_endHour_5 : decode cX11_endHour 5 = .ok (.invokevirtual 130, 3) := by decide +kernel
theorem dX11_endHour_8 : decode cX11_endHour 8 = .ok (.invokestatic 72, 3) := by decide +kernel
theorem dX11_endHour_11 : decode cX11_endHour 11 = .ok (.aload_n 0, 1) := by decide +kernel
theorem dX11_endHour_12 : decode cX11_endHour 12 = .ok (.getfield 12, 3) := by decide +kernel
theorem dX11_endHour_15 : decode cX11_endHour 15 = .ok (.getfield 94, 3) := by decide +kernel
theorem dX11_endHour_18 : decode cX11_endHour 18 = .ok (.getfield 182, 3) := by decide +kernel
theorem dX11_endHour_21 : decode cX11_endHour 21 = .ok (.iload_n 1, 1) := by decide +kernel
theorem dX11_endHour_22 : decode cX11_endHour 22 = .ok (.iaload, 1) := by decide +kernel
theorem dX11_endHour_23 : decode cX11_endHour 23 = .ok (.ireturn, 1) := by decide +kernel
theorem dX11_brightHours_0 : decode cX11_brightHours 0 = .ok (.aload_n 0, 1) := by decide +kernel
theorem dX11_brightHours_1 : decode cX11_brightHours 1 = .ok (.iload_n 1, 1) := by decide +kernel
theorem dX11_brightHours_2 : decode cX11_brightHours 2 = .ok (.invokevirtual 169, 3) := by decide +kernel
theorem dX11_brightHours_5 : decode cX11_brightHours 5 = .ok (.aload_n 0, 1) := by decide +kernel
theorem dX11_brightHours_6 : decode cX11_brightHours 6 = .ok (.getfield 12, 3) := by decide +kernel
theorem dX11_brightHours_9 : decode cX11_brightHours 9 = .ok (.getfield 94, 3) := by decide +kernel
theorem dX11_brightHours_12 : decode cX11_brightHours 12 = .ok (.getfield 185, 3) := by decide +kernel
theorem dX11_brightHours_15 : decode cX11_brightHours 15 = .ok (.iload_n 1, 1) := by decide +kernel
theorem dX11_brightHours_16 : decode cX11_brightHours 16 = .ok (.iaload, 1) := by decide +kernel
theorem dX11_brightHours_17 : decode cX11_brightHours 17 = .ok (.ireturn, 1) := by decide +kernel
theorem dX11_wasBright_0 : decode cX11_wasBright 0 = .ok (.aload_n 0, 1) := by decide +kernel
theorem dX11_wasBright_1 : decode cX11_wasBright 1 = .ok (.iload_n 1, 1) := by decide +kernel
theorem dX11_wasBright_2 : decode cX11_wasBright 2 = .ok (.invokevirtual 169, 3) := by decide +kernel
theorem dX11_wasBright_5 : decode cX11_wasBright 5 = .ok (.aload_n 0, 1) := by decide +kernel
theorem dX11_wasBright_6 : decode cX11_wasBright 6 = .ok (.getfield 12, 3) := by decide +kernel
theorem dX11_wasBright_9 : decode cX11_wasBright 9 = .ok (.getfield 94, 3) := by decide +kernel
theorem dX11_wasBright_12 : decode cX11_wasBright 12 = .ok (.getfield 188, 3) := by decide +kernel
theorem dX11_wasBright_15 : decode cX11_wasBright 15 = .ok (.iload_n 1, 1) := by decide +kernel
theorem dX11_wasBright_16 : decode cX11_wasBright 16 = .ok (.baload, 1) := by decide +kernel
theorem dX11_wasBright_17 : decode cX11_wasBright 17 = .ok (.ireturn, 1) := by decide +kernel
theorem dX11_leasedLamps_0 : decode cX11_leasedLamps 0 = .ok (.aload_n 0, 1) := by decide +kernel
theorem dX11_leasedLamps_1 : decode cX11_leasedLamps 1 = .ok (.getfield 12, 3) := by decide +kernel
theorem dX11_leasedLamps_4 : decode cX11_leasedLamps 4 = .ok (.getfield 94, 3) := by decide +kernel
theorem dX11_leasedLamps_7 : decode cX11_leasedLamps 7 = .ok (.invokevirtual 192, 3) := by decide +kernel
theorem dX11_leasedLamps_10 : decode cX11_leasedLamps 10 = .ok (.ireturn, 1) := by decide +kernel
theorem dX11_oil_0 : decode cX11_oil 0 = .ok (.aload_n 0, 1) := by decide +kernel
theorem dX11_oil_1 : decode cX11_oil 1 = .ok (.getfield 12, 3) := by decide +kernel
theorem dX11_oil_4 : decode cX11_oil 4 = .ok (.getfield 195, 3) := by decide +kernel
theorem dX11_oil_7 : decode cX11_oil 7 = .ok (.ireturn, 1) := by decide +kernel
theorem dX11_consumption_0 : decode cX11_consumption 0 = .ok (.aload_n 0, 1) := by decide +kernel
theorem dX11_consumption_1 : decode cX11_consumption 1 = .ok (.getfield 12, 3) := by decide +kernel
theorem dX11_consumption_4 : decode cX11_consumption 4 = .ok (.getfield 94, 3) := by decide +kernel
theorem dX11_consumption_7 : decode cX11_consumption 7 = .ok (.invokevirtual 198, 3) := by decide +kernel
theorem dX11_consumption_10 : decode cX11_consumption 10 = .ok (.ireturn, 1) := by decide +kernel
theorem dX11_hoursOfOil_0 : decode cX11_hoursOfOil 0 = .ok (.aload_n 0, 1) := by decide +kernel
theorem dX11_hoursOfOil_1 : decode cX11_hoursOfOil 1 = .ok (.getfield 32, 3) := by decide +kernel
theorem dX11_hoursOfOil_4 : decode cX11_hoursOfOil 4 = .ok (.aload_n 0, 1) := by decide +kernel
theorem dX11_hoursOfOil_5 : decode cX11_hoursOfOil 5 = .ok (.getfield 12, 3) := by decide +kernel
theorem dX11_hoursOfOil_8 : decode cX11_hoursOfOil 8 = .ok (.invokevirtual 201, 3) := by decide +kernel
theorem dX11_hoursOfOil_11 : decode cX11_hoursOfOil 11 = .ok (.istore_n 1, 1) := by decide +kernel
theorem dX11_hoursOfOil_12 : decode cX11_hoursOfOil 12 = .ok (.iload_n 1, 1) := by decide +kernel
theorem dX11_hoursOfOil_13 : decode cX11_hoursOfOil 13 = .ok (.invokestatic 205, 3) := by decide +kernel
theorem dX11_hoursOfOil_16 : decode cX11_hoursOfOil 16 = .ok (.iload_n 1, 1) := by decide +kernel
theorem dX11_hoursOfOil_17 : decode cX11_hoursOfOil 17 = .ok (.ireturn, 1) := by decide +kernel
theorem dX11_hoursOfOilByEnds_0 : decode cX11_hoursOfOilByEnds 0 = .ok (.aload_n 0, 1) := by decide +kernel
theorem dX11_hoursOfOilByEnds_1 : decode cX11_hoursOfOilByEnds 1 = .ok (.getfield 32, 3) := by decide +kernel
theorem dX11_hoursOfOilByEnds_4 : decode cX11_hoursOfOilByEnds 4 = .ok (.aload_n 0, 1) := by decide +kernel
theorem dX11_hoursOfOilByEnds_5 : decode cX11_hoursOfOilByEnds 5 = .ok (.getfield 12, 3) := by decide +kernel
theorem dX11_hoursOfOilByEnds_8 : decode cX11_hoursOfOilByEnds 8 = .ok (.invokevirtual 208, 3) := by decide +kernel
theorem dX11_hoursOfOilByEnds_11 : decode cX11_hoursOfOilByEnds 11 = .ok (.istore_n 1, 1) := by decide +kernel
theorem dX11_hoursOfOilByEnds_12 : decode cX11_hoursOfOilByEnds 12 = .ok (.iload_n 1, 1) := by decide +kernel
theorem dX11_hoursOfOilByEnds_13 : decode cX11_hoursOfOilByEnds 13 = .ok (.invokestatic 205, 3) := by decide +kernel
theorem dX11_hoursOfOilByEnds_16 : decode cX11_hoursOfOilByEnds 16 = .ok (.iload_n 1, 1) := by decide +kernel
theorem dX11_hoursOfOilByEnds_17 : decode cX11_hoursOfOilByEnds 17 = .ok (.ireturn, 1) := by decide +kernel
theorem dX11_brightNext_0 : decode cX11_brightNext 0 = .ok (.aload_n 0, 1) := by decide +kernel
theorem dX11_brightNext_1 : decode cX11_brightNext 1 = .ok (.getfield 32, 3) := by decide +kernel
theorem dX11_brightNext_4 : decode cX11_brightNext 4 = .ok (.aload_n 0, 1) := by decide +kernel
theorem dX11_brightNext_5 : decode cX11_brightNext 5 = .ok (.getfield 12, 3) := by decide +kernel
theorem dX11_brightNext_8 : decode cX11_brightNext 8 = .ok (.invokevirtual 211, 3) := by decide +kernel
theorem dX11_brightNext_11 : decode cX11_brightNext 11 = .ok (.ireturn, 1) := by decide +kernel
theorem dX11_mostBright_0 : decode cX11_mostBright 0 = .ok (.aload_n 0, 1) := by decide +kernel
theorem dX11_mostBright_1 : decode cX11_mostBright 1 = .ok (.getfield 32, 3) := by decide +kernel
theorem dX11_mostBright_4 : decode cX11_mostBright 4 = .ok (.aload_n 0, 1) := by decide +kernel
theorem dX11_mostBright_5 : decode cX11_mostBright 5 = .ok (.getfield 12, 3) := by decide +kernel
theorem dX11_mostBright_8 : decode cX11_mostBright 8 = .ok (.invokevirtual 214, 3) := by decide +kernel
theorem dX11_mostBright_11 : decode cX11_mostBright 11 = .ok (.ireturn, 1) := by decide +kernel
theorem dX11_mostBrightBySums_0 : decode cX11_mostBrightBySums 0 = .ok (.aload_n 0, 1) := by decide +kernel
theorem dX11_mostBrightBySums_1 : decode cX11_mostBrightBySums 1 = .ok (.getfield 32, 3) := by decide +kernel
theorem dX11_mostBrightBySums_4 : decode cX11_mostBrightBySums 4 = .ok (.aload_n 0, 1) := by decide +kernel
theorem dX11_mostBrightBySums_5 : decode cX11_mostBrightBySums 5 = .ok (.getfield 12, 3) := by decide +kernel
theorem dX11_mostBrightBySums_8 : decode cX11_mostBrightBySums 8 = .ok (.invokevirtual 217, 3) := by decide +kernel
theorem dX11_mostBrightBySums_11 : decode cX11_mostBrightBySums 11 = .ok (.ireturn, 1) := by decide +kernel
theorem dX11_share_0 : decode cX11_share 0 = .ok (.aload_n 0, 1) := by decide +kernel
theorem dX11_share_1 : decode cX11_share 1 = .ok (.iload_n 1, 1) := by decide +kernel
theorem dX11_share_2 : decode cX11_share 2 = .ok (.invokevirtual 148, 3) := by decide +kernel
theorem dX11_share_5 : decode cX11_share 5 = .ok (.aload_n 0, 1) := by decide +kernel
theorem dX11_share_6 : decode cX11_share 6 = .ok (.getfield 39, 3) := by decide +kernel
theorem dX11_share_9 : decode cX11_share 9 = .ok (.aload_n 0, 1) := by decide +kernel
theorem dX11_share_10 : decode cX11_share 10 = .ok (.getfield 12, 3) := by decide +kernel
theorem dX11_share_13 : decode cX11_share 13 = .ok (.iload_n 1, 1) := by decide +kernel
theorem dX11_share_14 : decode cX11_share 14 = .ok (.invokevirtual 220, 3) := by decide +kernel
theorem dX11_share_17 : decode cX11_share 17 = .ok (.ireturn, 1) := by decide +kernel
theorem dX11_shareByRank_0 : decode cX11_shareByRank 0 = .ok (.aload_n 0, 1) := by decide +kernel
theorem dX11_shareByRank_1 : decode cX11_shareByRank 1 = .ok (.iload_n 1, 1) := by decide +kernel
theorem dX11_shareByRank_2 : decode cX11_shareByRank 2 = .ok (.invokevirtual 148, 3) := by decide +kernel
theorem dX11_shareByRank_5 : decode cX11_shareByRank 5 = .ok (.aload_n 0, 1) := by decide +kernel
theorem dX11_shareByRank_6 : decode cX11_shareByRank 6 = .ok (.getfield 39, 3) := by decide +kernel
theorem dX11_shareByRank_9 : decode cX11_shareByRank 9 = .ok (.aload_n 0, 1) := by decide +kernel
theorem dX11_shareByRank_10 : decode cX11_shareByRank 10 = .ok (.getfield 12, 3) := by decide +kernel
theorem dX11_shareByRank_13 : decode cX11_shareByRank 13 = .ok (.iload_n 1, 1) := by decide +kernel
theorem dX11_shareByRank_14 : decode cX11_shareByRank 14 = .ok (.invokevirtual 224, 3) := by decide +kernel
theorem dX11_shareByRank_17 : decode cX11_shareByRank 17 = .ok (.ireturn, 1) := by decide +kernel
theorem dX11_requestCount_0 : decode cX11_requestCount 0 = .ok (.aload_n 0, 1) := by decide +kernel
theorem dX11_requestCount_1 : decode cX11_requestCount 1 = .ok (.getfield 12, 3) := by decide +kernel
theorem dX11_requestCount_4 : decode cX11_requestCount 4 = .ok (.getfield 121, 3) := by decide +kernel
theorem dX11_requestCount_7 : decode cX11_requestCount 7 = .ok (.getfield 227, 3) := by decide +kernel
theorem dX11_requestCount_10 : decode cX11_requestCount 10 = .ok (.ireturn, 1) := by decide +kernel
theorem dX11_requestedLamp_0 : decode cX11_requestedLamp 0 = .ok (.aload_n 0, 1) := by decide +kernel
theorem dX11_requestedLamp_1 : decode cX11_requestedLamp 1 = .ok (.iload_n 1, 1) := by decide +kernel
theorem dX11_requestedLamp_2 : decode cX11_requestedLamp 2 = .ok (.invokevirtual 228, 3) := by decide +kernel
theorem dX11_requestedLamp_5 : decode cX11_requestedLamp 5 = .ok (.aload_n 0, 1) := by decide +kernel
theorem dX11_requestedLamp_6 : decode cX11_requestedLamp 6 = .ok (.getfield 12, 3) := by decide +kernel
theorem dX11_requestedLamp_9 : decode cX11_requestedLamp 9 = .ok (.getfield 121, 3) := by decide +kernel
theorem dX11_requestedLamp_12 : decode cX11_requestedLamp 12 = .ok (.getfield 231, 3) := by decide +kernel
theorem dX11_requestedLamp_15 : decode cX11_requestedLamp 15 = .ok (.iload_n 1, 1) := by decide +kernel
theorem dX11_requestedLamp_16 : decode cX11_requestedLamp 16 = .ok (.iaload, 1) := by decide +kernel
theorem dX11_requestedLamp_17 : decode cX11_requestedLamp 17 = .ok (.ireturn, 1) := by decide +kernel
theorem dX11_requestedHours_0 : decode cX11_requestedHours 0 = .ok (.aload_n 0, 1) := by decide +kernel
theorem dX11_requestedHours_1 : decode cX11_requestedHours 1 = .ok (.iload_n 1, 1) := by decide +kernel
theorem dX11_requestedHours_2 : decode cX11_requestedHours 2 = .ok (.invokevirtual 228, 3) := by decide +kernel
theorem dX11_requestedHours_5 : decode cX11_requestedHours 5 = .ok (.aload_n 0, 1) := by decide +kernel
theorem dX11_requestedHours_6 : decode cX11_requestedHours 6 = .ok (.getfield 12, 3) := by decide +kernel
theorem dX11_requestedHours_9 : decode cX11_requestedHours 9 = .ok (.getfield 121, 3) := by decide +kernel
theorem dX11_requestedHours_12 : decode cX11_requestedHours 12 = .ok (.getfield 233, 3) := by decide +kernel
theorem dX11_requestedHours_15 : decode cX11_requestedHours 15 = .ok (.iload_n 1, 1) := by decide +kernel
theorem dX11_requestedHours_16 : decode cX11_requestedHours 16 = .ok (.iaload, 1) := by decide +kernel
theorem dX11_requestedHours_17 : decode cX11_requestedHours 17 = .ok (.ireturn, 1) := by decide +kernel
theorem dX11_refusedRenewals_0 : decode cX11_refusedRenewals 0 = .ok (.aload_n 0, 1) := by decide +kernel
theorem dX11_refusedRenewals_1 : decode cX11_refusedRenewals 1 = .ok (.getfield 12, 3) := by decide +kernel
theorem dX11_refusedRenewals_4 : decode cX11_refusedRenewals 4 = .ok (.getfield 236, 3) := by decide +kernel
theorem dX11_refusedRenewals_7 : decode cX11_refusedRenewals 7 = .ok (.ireturn, 1) := by decide +kernel
theorem dX11_officeCoins_0 : decode cX11_officeCoins 0 = .ok (.aload_n 0, 1) := by decide +kernel
theorem dX11_officeCoins_1 : decode cX11_officeCoins 1 = .ok (.getfield 12, 3) := by decide +kernel
theorem dX11_officeCoins_4 : decode cX11_officeCoins 4 = .ok (.getfield 239, 3) := by decide +kernel
theorem dX11_officeCoins_7 : decode cX11_officeCoins 7 = .ok (.ireturn, 1) := by decide +kernel
theorem dX11_shipByFines_0 : decode cX11_shipByFines 0 = .ok (.aload_n 0, 1) := by decide +kernel
theorem dX11_shipByFines_1 : decode cX11_shipByFines 1 = .ok (.getfield 12, 3) := by decide +kernel
theorem dX11_shipByFines_4 : decode cX11_shipByFines 4 = .ok (.getfield 80, 3) := by decide +kernel
theorem dX11_shipByFines_7 : decode cX11_shipByFines 7 = .ok (.iload_n 1, 1) := by decide +kernel
theorem dX11_shipByFines_8 : decode cX11_shipByFines 8 = .ok (.invokevirtual 242, 3) := by decide +kernel
theorem dX11_shipByFines_11 : decode cX11_shipByFines 11 = .ok (.istore_n 2, 1) := by decide +kernel
theorem dX11_shipByFines_12 : decode cX11_shipByFines 12 = .ok (.iload_n 2, 1) := by decide +kernel
theorem dX11_shipByFines_13 : decode cX11_shipByFines 13 = .ok (.invokestatic 205, 3) := by decide +kernel
theorem dX11_shipByFines_16 : decode cX11_shipByFines 16 = .ok (.iload_n 2, 1) := by decide +kernel
theorem dX11_shipByFines_17 : decode cX11_shipByFines 17 = .ok (.ireturn, 1) := by decide +kernel
theorem dX11_lampByEnd_0 : decode cX11_lampByEnd 0 = .ok (.aload_n 0, 1) := by decide +kernel
theorem dX11_lampByEnd_1 : decode cX11_lampByEnd 1 = .ok (.getfield 12, 3) := by decide +kernel
theorem dX11_lampByEnd_4 : decode cX11_lampByEnd 4 = .ok (.getfield 94, 3) := by decide +kernel
theorem dX11_lampByEnd_7 : decode cX11_lampByEnd 7 = .ok (.iload_n 1, 1) := by decide +kernel
theorem dX11_lampByEnd_8 : decode cX11_lampByEnd 8 = .ok (.invokevirtual 245, 3) := by decide +kernel
theorem dX11_lampByEnd_11 : decode cX11_lampByEnd 11 = .ok (.istore_n 2, 1) := by decide +kernel
theorem dX11_lampByEnd_12 : decode cX11_lampByEnd 12 = .ok (.iload_n 2, 1) := by decide +kernel
theorem dX11_lampByEnd_13 : decode cX11_lampByEnd 13 = .ok (.invokestatic 205, 3) := by decide +kernel
theorem dX11_lampByEnd_16 : decode cX11_lampByEnd 16 = .ok (.iload_n 2, 1) := by decide +kernel
theorem dX11_lampByEnd_17 : decode cX11_lampByEnd 17 = .ok (.ireturn, 1) := by decide +kernel
theorem dX11_meanCoins_0 : decode cX11_meanCoins 0 = .ok (.aload_n 0, 1) := by decide +kernel
theorem dX11_meanCoins_1 : decode cX11_meanCoins 1 = .ok (.getfield 12, 3) := by decide +kernel
theorem dX11_meanCoins_4 : decode cX11_meanCoins 4 = .ok (.getfield 80, 3) := by decide +kernel
theorem dX11_meanCoins_7 : decode cX11_meanCoins 7 = .ok (.getfield 145, 3) := by decide +kernel
theorem dX11_meanCoins_10 : decode cX11_meanCoins 10 = .ok (.istore_n 1, 1) := by decide +kernel
theorem dX11_meanCoins_11 : decode cX11_meanCoins 11 = .ok (.iload_n 1, 1) := by decide +kernel
theorem dX11_meanCoins_12 : decode cX11_meanCoins 12 = .ok (.ifCond .ne 13, 3) := by decide +kernel
theorem dX11_meanCoins_15 : decode cX11_meanCoins 15 = .ok (.new 246, 3) := by decide +kernel
theorem dX11_meanCoins_18 : decode cX11_meanCoins 18 = .ok (.dup, 1) := by decide +kernel
theorem dX11_meanCoins_19 : decode cX11_meanCoins 19 = .ok (.ldc 248, 2) := by decide +kernel
theorem dX11_meanCoins_21 : decode cX11_meanCoins 21 = .ok (.invokespecial 250, 3) := by decide +kernel
theorem dX11_meanCoins_24 : decode cX11_meanCoins 24 = .ok (.athrow, 1) := by decide +kernel
theorem dX11_meanCoins_25 : decode cX11_meanCoins 25 = .ok (.aload_n 0, 1) := by decide +kernel
theorem dX11_meanCoins_26 : decode cX11_meanCoins 26 = .ok (.getfield 12, 3) := by decide +kernel
theorem dX11_meanCoins_29 : decode cX11_meanCoins 29 = .ok (.getfield 80, 3) := by decide +kernel
theorem dX11_meanCoins_32 : decode cX11_meanCoins 32 = .ok (.invokevirtual 253, 3) := by decide +kernel
theorem dX11_meanCoins_35 : decode cX11_meanCoins 35 = .ok (.i2d, 1) := by decide +kernel
theorem dX11_meanCoins_36 : decode cX11_meanCoins 36 = .ok (.iload_n 1, 1) := by decide +kernel
theorem dX11_meanCoins_37 : decode cX11_meanCoins 37 = .ok (.i2d, 1) := by decide +kernel
theorem dX11_meanCoins_38 : decode cX11_meanCoins 38 = .ok (.ddiv, 1) := by decide +kernel
theorem dX11_meanCoins_39 : decode cX11_meanCoins 39 = .ok (.dreturn, 1) := by decide +kernel
theorem dX11_leasedShare_0 : decode cX11_leasedShare 0 = .ok (.aload_n 0, 1) := by decide +kernel
theorem dX11_leasedShare_1 : decode cX11_leasedShare 1 = .ok (.getfield 12, 3) := by decide +kernel
theorem dX11_leasedShare_4 : decode cX11_leasedShare 4 = .ok (.getfield 94, 3) := by decide +kernel
theorem dX11_leasedShare_7 : decode cX11_leasedShare 7 = .ok (.getfield 168, 3) := by decide +kernel
theorem dX11_leasedShare_10 : decode cX11_leasedShare 10 = .ok (.istore_n 1, 1) := by decide +kernel
theorem dX11_leasedShare_11 : decode cX11_leasedShare 11 = .ok (.iload_n 1, 1) := by decide +kernel
theorem dX11_leasedShare_12 : decode cX11_leasedShare 12 = .ok (.ifCond .ne 14, 3) := by decide +kernel
theorem dX11_leasedShare_15 : decode cX11_leasedShare 15 = .ok (.new 246, 3) := by decide +kernel
theorem dX11_leasedShare_18 : decode cX11_leasedShare 18 = .ok (.dup, 1) := by decide +kernel
theorem dX11_leasedShare_19 : decode cX11_leasedShare 19 = .ok (.ldc_w 256, 3) := by decide +kernel
theorem dX11_leasedShare_22 : decode cX11_leasedShare 22 = .ok (.invokespecial 250, 3) := by decide +kernel
theorem dX11_leasedShare_25 : decode cX11_leasedShare 25 = .ok (.athrow, 1) := by decide +kernel
theorem dX11_leasedShare_26 : decode cX11_leasedShare 26 = .ok (.aload_n 0, 1) := by decide +kernel
theorem dX11_leasedShare_27 : decode cX11_leasedShare 27 = .ok (.getfield 12, 3) := by decide +kernel
theorem dX11_leasedShare_30 : decode cX11_leasedShare 30 = .ok (.getfield 94, 3) := by decide +kernel
theorem dX11_leasedShare_33 : decode cX11_leasedShare 33 = .ok (.invokevirtual 192, 3) := by decide +kernel
theorem dX11_leasedShare_36 : decode cX11_leasedShare 36 = .ok (.i2f, 1) := by decide +kernel
theorem dX11_leasedShare_37 : decode cX11_leasedShare 37 = .ok (.iload_n 1, 1) := by decide +kernel
theorem dX11_leasedShare_38 : decode cX11_leasedShare 38 = .ok (.i2f, 1) := by decide +kernel
theorem dX11_leasedShare_39 : decode cX11_leasedShare 39 = .ok (.fdiv, 1) := by decide +kernel
theorem dX11_leasedShare_40 : decode cX11_leasedShare 40 = .ok (.freturn, 1) := by decide +kernel
theorem dX11_isConsistent_0 : decode cX11_isConsistent 0 = .ok (.aload_n 0, 1) := by decide +kernel
theorem dX11_isConsistent_1 : decode cX11_isConsistent 1 = .ok (.invokevirtual 258, 3) := by decide +kernel
theorem dX11_isConsistent_4 : decode cX11_isConsistent 4 = .ok (.ifCond .eq 35, 3) := by decide +kernel
theorem dX11_isConsistent_7 : decode cX11_isConsistent 7 = .ok (.aload_n 0, 1) := by decide +kernel
theorem dX11_isConsistent_8 : decode cX11_isConsistent 8 = .ok (.invokevirtual 262, 3) := by decide +kernel
theorem dX11_isConsistent_11 : decode cX11_isConsistent 11 = .ok (.ifCond .eq 28, 3) := by decide +kernel
theorem dX11_isConsistent_14 : decode cX11_isConsistent 14 = .ok (.aload_n 0, 1) := by decide +kernel
theorem dX11_isConsistent_15 : decode cX11_isConsistent 15 = .ok (.invokevirtual 265, 3) := by decide +kernel
theorem dX11_isConsistent_18 : decode cX11_isConsistent 18 = .ok (.ifCond .eq 21, 3) := by decide +kernel
theorem dX11_isConsistent_21 : decode cX11_isConsistent 21 = .ok (.aload_n 0, 1) := by decide +kernel
theorem dX11_isConsistent_22 : decode cX11_isConsistent 22 = .ok (.invokevirtual 268, 3) := by decide +kernel
theorem dX11_isConsistent_25 : decode cX11_isConsistent 25 = .ok (.ifCond .eq 14, 3) := by decide +kernel
theorem dX11_isConsistent_28 : decode cX11_isConsistent 28 = .ok (.aload_n 0, 1) := by decide +kernel
theorem dX11_isConsistent_29 : decode cX11_isConsistent 29 = .ok (.invokevirtual 271, 3) := by decide +kernel
theorem dX11_isConsistent_32 : decode cX11_isConsistent 32 = .ok (.ifCond .eq 7, 3) := by decide +kernel
theorem dX11_isConsistent_35 : decode cX11_isConsistent 35 = .ok (.iconst 1, 1) := by decide +kernel
theorem dX11_isConsistent_36 : decode cX11_isConsistent 36 = .ok (.goto 4, 3) := by decide +kernel
theorem dX11_isConsistent_39 : decode cX11_isConsistent 39 = .ok (.iconst 0, 1) := by decide +kernel
theorem dX11_isConsistent_40 : decode cX11_isConsistent 40 = .ok (.ireturn, 1) := by decide +kernel
theorem dX11_coinsAddUp_0 : decode cX11_coinsAddUp 0 = .ok (.aload_n 0, 1) := by decide +kernel
theorem dX11_coinsAddUp_1 : decode cX11_coinsAddUp 1 = .ok (.getfield 12, 3) := by decide +kernel
theorem dX11_coinsAddUp_4 : decode cX11_coinsAddUp 4 = .ok (.getfield 80, 3) := by decide +kernel
theorem dX11_coinsAddUp_7 : decode cX11_coinsAddUp 7 = .ok (.invokevirtual 253, 3) := by decide +kernel
theorem dX11_coinsAddUp_10 : decode cX11_coinsAddUp 10 = .ok (.aload_n 0, 1) := by decide +kernel
theorem dX11_coinsAddUp_11 : decode cX11_coinsAddUp 11 = .ok (.getfield 12, 3) := by decide +kernel
theorem dX11_coinsAddUp_14 : decode cX11_coinsAddUp 14 = .ok (.getfield 239, 3) := by decide +kernel
theorem dX11_coinsAddUp_17 : decode cX11_coinsAddUp 17 = .ok (.iadd, 1) := by decide +kernel
theorem dX11_coinsAddUp_18 : decode cX11_coinsAddUp 18 = .ok (.bipush 100, 2) := by decide +kernel
theorem dX11_coinsAddUp_20 : decode cX11_coinsAddUp 20 = .ok (.aload_n 0, 1) := by decide +kernel
theorem dX11_coinsAddUp_21 : decode cX11_coinsAddUp 21 = .ok (.getfield 12, 3) := by decide +kernel
theorem dX11_coinsAddUp_24 : decode cX11_coinsAddUp 24 = .ok (.getfield 80, 3) := by decide +kernel
theorem dX11_coinsAddUp_27 : decode cX11_coinsAddUp 27 = .ok (.getfield 145, 3) := by decide +kernel
theorem dX11_coinsAddUp_30 : decode cX11_coinsAddUp 30 = .ok (.imul, 1) := by decide +kernel
theorem dX11_coinsAddUp_31 : decode cX11_coinsAddUp 31 = .ok (.if_icmp .ne 7, 3) := by decide +kernel
theorem dX11_coinsAddUp_34 : decode cX11_coinsAddUp 34 = .ok (.iconst 1, 1) := by decide +kernel
theorem dX11_coinsAddUp_35 : decode cX11_coinsAddUp 35 = .ok (.goto 4, 3) := by decide +kernel
theorem dX11_coinsAddUp_38 : decode cX11_coinsAddUp 38 = .ok (.iconst 0, 1) := by decide +kernel
theorem dX11_coinsAddUp_39 : decode cX11_coinsAddUp 39 = .ok (.ireturn, 1) := by decide +kernel
theorem dX11_sharesAgree_0 : decode cX11_sharesAgree 0 = .ok (.iconst 0, 1) := by decide +kernel
theorem dX11_sharesAgree_1 : decode cX11_sharesAgree 1 = .ok (.istore_n 1, 1) := by decide +kernel
theorem dX11_sharesAgree_2 : decode cX11_sharesAgree 2 = .ok (.iload_n 1, 1) := by decide +kernel
theorem dX11_sharesAgree_3 : decode cX11_sharesAgree 3 = .ok (.aload_n 0, 1) := by decide +kernel
theorem dX11_sharesAgree_4 : decode cX11_sharesAgree 4 = .ok (.getfield 12, 3) := by decide +kernel
theorem dX11_sharesAgree_7 : decode cX11_sharesAgree 7 = .ok (.getfield 80, 3) := by decide +kernel
theorem dX11_sharesAgree_10 : decode cX11_sharesAgree 10 = .ok (.getfield 145, 3) := by decide +kernel
theorem dX11_sharesAgree_13 : decode cX11_sharesAgree 13 = .ok (.if_icmp .ge 38, 3) := by decide +kernel
theorem dX11_sharesAgree_16 : decode cX11_sharesAgree 16 = .ok (.aload_n 0, 1) := by decide +kernel
theorem dX11_sharesAgree_17 : decode cX11_sharesAgree 17 = .ok (.getfield 39, 3) := by decide +kernel
theorem dX11_sharesAgree_20 : decode cX11_sharesAgree 20 = .ok (.aload_n 0, 1) := by decide +kernel
theorem dX11_sharesAgree_21 : decode cX11_sharesAgree 21 = .ok (.getfield 12, 3) := by decide +kernel
theorem dX11_sharesAgree_24 : decode cX11_sharesAgree 24 = .ok (.iload_n 1, 1) := by decide +kernel
theorem dX11_sharesAgree_25 : decode cX11_sharesAgree 25 = .ok (.invokevirtual 220, 3) := by decide +kernel
theorem dX11_sharesAgree_28 : decode cX11_sharesAgree 28 = .ok (.aload_n 0, 1) := by decide +kernel
theorem dX11_sharesAgree_29 : decode cX11_sharesAgree 29 = .ok (.getfield 39, 3) := by decide +kernel
theorem dX11_sharesAgree_32 : decode cX11_sharesAgree 32 = .ok (.aload_n 0, 1) := by decide +kernel
theorem dX11_sharesAgree_33 : decode cX11_sharesAgree 33 = .ok (.getfield 12, 3) := by decide +kernel
theorem dX11_sharesAgree_36 : decode cX11_sharesAgree 36 = .ok (.iload_n 1, 1) := by decide +kernel
theorem dX11_sharesAgree_37 : decode cX11_sharesAgree 37 = .ok (.invokevirtual 224, 3) := by decide +kernel
theorem dX11_sharesAgree_40 : decode cX11_sharesAgree 40 = .ok (.if_icmp .eq 5, 3) := by decide +kernel
theorem dX11_sharesAgree_43 : decode cX11_sharesAgree 43 = .ok (.iconst 0, 1) := by decide +kernel
theorem dX11_sharesAgree_44 : decode cX11_sharesAgree 44 = .ok (.ireturn, 1) := by decide +kernel
theorem dX11_sharesAgree_45 : decode cX11_sharesAgree 45 = .ok (.iinc 1 1, 3) := by decide +kernel
theorem dX11_sharesAgree_48 : decode cX11_sharesAgree 48 = .ok (.goto (-46), 3) := by decide +kernel
theorem dX11_sharesAgree_51 : decode cX11_sharesAgree 51 = .ok (.iconst 1, 1) := by decide +kernel
theorem dX11_sharesAgree_52 : decode cX11_sharesAgree 52 = .ok (.ireturn, 1) := by decide +kernel
theorem dX11_sharesAddUp_0 : decode cX11_sharesAddUp 0 = .ok (.iconst 0, 1) := by decide +kernel
theorem dX11_sharesAddUp_1 : decode cX11_sharesAddUp 1 = .ok (.istore_n 1, 1) := by decide +kernel
theorem dX11_sharesAddUp_2 : decode cX11_sharesAddUp 2 = .ok (.iconst 0, 1) := by decide +kernel
theorem dX11_sharesAddUp_3 : decode cX11_sharesAddUp 3 = .ok (.istore_n 2, 1) := by decide +kernel
theorem dX11_sharesAddUp_4 : decode cX11_sharesAddUp 4 = .ok (.iload_n 2, 1) := by decide +kernel
theorem dX11_sharesAddUp_5 : decode cX11_sharesAddUp 5 = .ok (.aload_n 0, 1) := by decide +kernel
theorem dX11_sharesAddUp_6 : decode cX11_sharesAddUp 6 = .ok (.getfield 12, 3) := by decide +kernel
theorem dX11_sharesAddUp_9 : decode cX11_sharesAddUp 9 = .ok (.getfield 80, 3) := by decide +kernel
theorem dX11_sharesAddUp_12 : decode cX11_sharesAddUp 12 = .ok (.getfield 145, 3) := by decide +kernel
theorem dX11_sharesAddUp_15 : decode cX11_sharesAddUp 15 = .ok (.if_icmp .ge 24, 3) := by decide +kernel
theorem dX11_sharesAddUp_18 : decode cX11_sharesAddUp 18 = .ok (.iload_n 1, 1) := by decide +kernel
theorem dX11_sharesAddUp_19 : decode cX11_sharesAddUp 19 = .ok (.aload_n 0, 1) := by decide +kernel
theorem dX11_sharesAddUp_20 : decode cX11_sharesAddUp 20 = .ok (.getfield 39, 3) := by decide +kernel
theorem dX11_sharesAddUp_23 : decode cX11_sharesAddUp 23 = .ok (.aload_n 0, 1) := by decide +kernel
theorem dX11_sharesAddUp_24 : decode cX11_sharesAddUp 24 = .ok (.getfield 12, 3) := by decide +kernel
theorem dX11_sharesAddUp_27 : decode cX11_sharesAddUp 27 = .ok (.iload_n 2, 1) := by decide +kernel
theorem dX11_sharesAddUp_28 : decode cX11_sharesAddUp 28 = .ok (.invokevirtual 220, 3) := by decide +kernel
theorem dX11_sharesAddUp_31 : decode cX11_sharesAddUp 31 = .ok (.iadd, 1) := by decide +kernel
theorem dX11_sharesAddUp_32 : decode cX11_sharesAddUp 32 = .ok (.istore_n 1, 1) := by decide +kernel
theorem dX11_sharesAddUp_33 : decode cX11_sharesAddUp 33 = .ok (.iinc 2 1, 3) := by decide +kernel
theorem dX11_sharesAddUp_36 : decode cX11_sharesAddUp 36 = .ok (.goto (-32), 3) := by decide +kernel
theorem dX11_sharesAddUp_39 : decode cX11_sharesAddUp 39 = .ok (.iload_n 1, 1) := by decide +kernel
theorem dX11_sharesAddUp_40 : decode cX11_sharesAddUp 40 = .ok (.aload_n 0, 1) := by decide +kernel
theorem dX11_sharesAddUp_41 : decode cX11_sharesAddUp 41 = .ok (.getfield 12, 3) := by decide +kernel
theorem dX11_sharesAddUp_44 : decode cX11_sharesAddUp 44 = .ok (.getfield 94, 3) := by decide +kernel
theorem dX11_sharesAddUp_47 : decode cX11_sharesAddUp 47 = .ok (.invokevirtual 198, 3) := by decide +kernel
theorem dX11_sharesAddUp_50 : decode cX11_sharesAddUp 50 = .ok (.ifCond .le 13, 3) := by decide +kernel
theorem dX11_sharesAddUp_53 : decode cX11_sharesAddUp 53 = .ok (.aload_n 0, 1) := by decide +kernel
theorem dX11_sharesAddUp_54 : decode cX11_sharesAddUp 54 = .ok (.getfield 12, 3) := by decide +kernel
theorem dX11_sharesAddUp_57 : decode cX11_sharesAddUp 57 = .ok (.getfield 195, 3) := by decide +kernel
theorem dX11_sharesAddUp_60 : decode cX11_sharesAddUp 60 = .ok (.goto 4, 3) := by decide +kernel
theorem dX11_sharesAddUp_63 : decode cX11_sharesAddUp 63 = .ok (.iconst 0, 1) := by decide +kernel
theorem dX11_sharesAddUp_64 : decode cX11_sharesAddUp 64 = .ok (.if_icmp .ne 7, 3) := by decide +kernel
theorem dX11_sharesAddUp_67 : decode cX11_sharesAddUp 67 = .ok (.iconst 1, 1) := by decide +kernel
theorem dX11_sharesAddUp_68 : decode cX11_sharesAddUp 68 = .ok (.goto 4, 3) := by decide +kernel
theorem dX11_sharesAddUp_71 : decode cX11_sharesAddUp 71 = .ok (.iconst 0, 1) := by decide +kernel
theorem dX11_sharesAddUp_72 : decode cX11_sharesAddUp 72 = .ok (.ireturn, 1) := by decide +kernel
theorem dX11_brightnessAgrees_0 : decode cX11_brightnessAgrees 0 = .ok (.aload_n 0, 1) := by decide +kernel
theorem dX11_brightnessAgrees_1 : decode cX11_brightnessAgrees 1 = .ok (.getfield 32, 3) := by decide +kernel
theorem dX11_brightnessAgrees_4 : decode cX11_brightnessAgrees 4 = .ok (.aload_n 0, 1) := by decide +kernel
theorem dX11_brightnessAgrees_5 : decode cX11_brightnessAgrees 5 = .ok (.getfield 12, 3) := by decide +kernel
theorem dX11_brightnessAgrees_8 : decode cX11_brightnessAgrees 8 = .ok (.invokevirtual 214, 3) := by decide +kernel
theorem dX11_brightnessAgrees_11 : decode cX11_brightnessAgrees 11 = .ok (.aload_n 0, 1) := by decide +kernel
theorem dX11_brightnessAgrees_12 : decode cX11_brightnessAgrees 12 = .ok (.getfield 32, 3) := by decide +kernel
theorem dX11_brightnessAgrees_15 : decode cX11_brightnessAgrees 15 = .ok (.aload_n 0, 1) := by decide +kernel
theorem dX11_brightnessAgrees_16 : decode cX11_brightnessAgrees 16 = .ok (.getfield 12, 3) := by decide +kernel
theorem dX11_brightnessAgrees_19 : decode cX11_brightnessAgrees 19 = .ok (.invokevirtual 217, 3) := by decide +kernel
theorem dX11_brightnessAgrees_22 : decode cX11_brightnessAgrees 22 = .ok (.if_icmp .ne 7, 3) := by decide +kernel
theorem dX11_brightnessAgrees_25 : decode cX11_brightnessAgrees 25 = .ok (.iconst 1, 1) := by decide +kernel
theorem dX11_brightnessAgrees_26 : decode cX11_brightnessAgrees 26 = .ok (.goto 4, 3) := by decide +kernel
theorem dX11_brightnessAgrees_29 : decode cX11_brightnessAgrees 29 = .ok (.iconst 0, 1) := by decide +kernel
theorem dX11_brightnessAgrees_30 : decode cX11_brightnessAgrees 30 = .ok (.ireturn, 1) := by decide +kernel
theorem dX11_requestsAreForLeasedLamps_0 : decode cX11_requestsAreForLeasedLamps 0 = .ok (.iconst 0, 1) := by decide +kernel
theorem dX11_requestsAreForLeasedLamps_1 : decode cX11_requestsAreForLeasedLamps 1 = .ok (.istore_n 1, 1) := by decide +kernel
theorem dX11_requestsAreForLeasedLamps_2 : decode cX11_requestsAreForLeasedLamps 2 = .ok (.iload_n 1, 1) := by decide +kernel
theorem dX11_requestsAreForLeasedLamps_3 : decode cX11_requestsAreForLeasedLamps 3 = .ok (.aload_n 0, 1) := by decide +kernel
theorem dX11_requestsAreForLeasedLamps_4 : decode cX11_requestsAreForLeasedLamps 4 = .ok (.getfield 12, 3) := by decide +kernel
theorem dX11_requestsAreForLeasedLamps_7 : decode cX11_requestsAreForLeasedLamps 7 = .ok (.getfield 121, 3) := by decide +kernel
theorem dX11_requestsAreForLeasedLamps_10 : decode cX11_requestsAreForLeasedLamps 10 = .ok (.getfield 227, 3) := by decide +kernel
theorem dX11_requestsAreForLeasedLamps_13 : decode cX11_requestsAreForLeasedLamps 13 = .ok (.if_icmp .ge 36, 3) := by decide +kernel
theorem dX11_requestsAreForLeasedLamps_16 : decode cX11_requestsAreForLeasedLamps 16 = .ok (.aload_n 0, 1) := by decide +kernel
theorem dX11_requestsAreForLeasedLamps_17 : decode cX11_requestsAreForLeasedLamps 17 = .ok (.getfield 12, 3) := by decide +kernel
theorem dX11_requestsAreForLeasedLamps_20 : decode cX11_requestsAreForLeasedLamps 20 = .ok (.getfield 94, 3) := by decide +kernel
theorem dX11_requestsAreForLeasedLamps_23 : decode cX11_requestsAreForLeasedLamps 23 = .ok (.aload_n 0, 1) := by decide +kernel
theorem dX11_requestsAreForLeasedLamps_24 : decode cX11_requestsAreForLeasedLamps 24 = .ok (.getfield 12, 3) := by decide +kernel
theorem dX11_requestsAreForLeasedLamps_27 : decode cX11_requestsAreForLeasedLamps 27 = .ok (.getfield 121, 3) := by decide +kernel
theorem dX11_requestsAreForLeasedLamps_30 : decode cX11_requestsAreForLeasedLamps 30 = .ok (.getfield 231, 3) := by decide +kernel
theorem dX11_requestsAreForLeasedLamps_33 : decode cX11_requestsAreForLeasedLamps 33 = .ok (.iload_n 1, 1) := by decide +kernel
theorem dX11_requestsAreForLeasedLamps_34 : decode cX11_requestsAreForLeasedLamps 34 = .ok (.iaload, 1) := by decide +kernel
theorem dX11_requestsAreForLeasedLamps_35 : decode cX11_requestsAreForLeasedLamps 35 = .ok (.invokevirtual 175, 3) := by decide +kernel
theorem dX11_requestsAreForLeasedLamps_38 : decode cX11_requestsAreForLeasedLamps 38 = .ok (.ifCond .ne 5, 3) := by decide +kernel
theorem dX11_requestsAreForLeasedLamps_41 : decode cX11_requestsAreForLeasedLamps 41 = .ok (.iconst 0, 1) := by decide +kernel
theorem dX11_requestsAreForLeasedLamps_42 : decode cX11_requestsAreForLeasedLamps 42 = .ok (.ireturn, 1) := by decide +kernel
theorem dX11_requestsAreForLeasedLamps_43 : decode cX11_requestsAreForLeasedLamps 43 = .ok (.iinc 1 1, 3) := by decide +kernel
theorem dX11_requestsAreForLeasedLamps_46 : decode cX11_requestsAreForLeasedLamps 46 = .ok (.goto (-44), 3) := by decide +kernel
theorem dX11_requestsAreForLeasedLamps_49 : decode cX11_requestsAreForLeasedLamps 49 = .ok (.iconst 1, 1) := by decide +kernel
theorem dX11_requestsAreForLeasedLamps_50 : decode cX11_requestsAreForLeasedLamps 50 = .ok (.ireturn, 1) := by decide +kernel
theorem dX11_feed_0 : decode cX11_feed 0 = .ok (.aload_n 0, 1) := by decide +kernel
theorem dX11_feed_1 : decode cX11_feed 1 = .ok (.getfield 46, 3) := by decide +kernel
theorem dX11_feed_4 : decode cX11_feed 4 = .ok (.getfield 274, 3) := by decide +kernel
theorem dX11_feed_7 : decode cX11_feed 7 = .ok (.bipush 60, 2) := by decide +kernel
theorem dX11_feed_9 : decode cX11_feed 9 = .ok (.if_icmp .lt 14, 3) := by decide +kernel
theorem dX11_feed_12 : decode cX11_feed 12 = .ok (.new 277, 3) := by decide +kernel
theorem dX11_feed_15 : decode cX11_feed 15 = .ok (.dup, 1) := by decide +kernel
theorem dX11_feed_16 : decode cX11_feed 16 = .ok (.ldc_w 279, 3) := by decide +kernel
theorem dX11_feed_19 : decode cX11_feed 19 = .ok (.invokespecial 281, 3) := by decide +kernel
theorem dX11_feed_22 : decode cX11_feed 22 = .ok (.athrow, 1) := by decide +kernel
theorem dX11_feed_23 : decode cX11_feed 23 = .ok (.aload_n 0, 1) := by decide +kernel
theorem dX11_feed_24 : decode cX11_feed 24 = .ok (.getfield 46, 3) := by decide +kernel
theorem dX11_feed_27 : decode cX11_feed 27 = .ok (.iload_n 1, 1) := by decide +kernel
theorem dX11_feed_28 : decode cX11_feed 28 = .ok (.invokevirtual 282, 3) := by decide +kernel
theorem dX11_feed_31 : decode cX11_feed 31 = .ok (.ireturn, 1) := by decide +kernel
theorem dX11_runCommands_0 : decode cX11_runCommands 0 = .ok (.aload_n 0, 1) := by decide +kernel
theorem dX11_runCommands_1 : decode cX11_runCommands 1 = .ok (.getfield 46, 3) := by decide +kernel
theorem dX11_runCommands_4 : decode cX11_runCommands 4 = .ok (.invokevirtual 285, 3) := by decide +kernel
theorem dX11_runCommands_7 : decode cX11_runCommands 7 = .ok (.istore_n 1, 1) := by decide +kernel
theorem dX11_runCommands_8 : decode cX11_runCommands 8 = .ok (.aload_n 0, 1) := by decide +kernel
theorem dX11_runCommands_9 : decode cX11_runCommands 9 = .ok (.getfield 46, 3) := by decide +kernel
theorem dX11_runCommands_12 : decode cX11_runCommands 12 = .ok (.invokevirtual 288, 3) := by decide +kernel
theorem dX11_runCommands_15 : decode cX11_runCommands 15 = .ok (.iload_n 1, 1) := by decide +kernel
theorem dX11_runCommands_16 : decode cX11_runCommands 16 = .ok (.ifCond .ne 25, 3) := by decide +kernel
theorem dX11_runCommands_19 : decode cX11_runCommands 19 = .ok (.aload_n 0, 1) := by decide +kernel
theorem dX11_runCommands_20 : decode cX11_runCommands 20 = .ok (.aload_n 0, 1) := by decide +kernel
theorem dX11_runCommands_21 : decode cX11_runCommands 21 = .ok (.getfield 46, 3) := by decide +kernel
theorem dX11_runCommands_24 : decode cX11_runCommands 24 = .ok (.getfield 291, 3) := by decide +kernel
theorem dX11_runCommands_27 : decode cX11_runCommands 27 = .ok (.putfield 57, 3) := by decide +kernel
theorem dX11_runCommands_30 : decode cX11_runCommands 30 = .ok (.new 294, 3) := by decide +kernel
theorem dX11_runCommands_33 : decode cX11_runCommands 33 = .ok (.dup, 1) := by decide +kernel
theorem dX11_runCommands_34 : decode cX11_runCommands 34 = .ok (.ldc_w 296, 3) := by decide +kernel
theorem dX11_runCommands_37 : decode cX11_runCommands 37 = .ok (.invokespecial 298, 3) := by decide +kernel
theorem dX11_runCommands_40 : decode cX11_runCommands 40 = .ok (.athrow, 1) := by decide +kernel
theorem dX11_runCommands_41 : decode cX11_runCommands 41 = .ok (.aload_n 0, 1) := by decide +kernel
theorem dX11_runCommands_42 : decode cX11_runCommands 42 = .ok (.getfield 16, 3) := by decide +kernel
theorem dX11_runCommands_45 : decode cX11_runCommands 45 = .ok (.aload_n 0, 1) := by decide +kernel
theorem dX11_runCommands_46 : decode cX11_runCommands 46 = .ok (.getfield 12, 3) := by decide +kernel
theorem dX11_runCommands_49 : decode cX11_runCommands 49 = .ok (.invokevirtual 299, 3) := by decide +kernel
theorem dX11_runCommands_52 : decode cX11_runCommands 52 = .ok (.iconst 0, 1) := by decide +kernel
theorem dX11_runCommands_53 : decode cX11_runCommands 53 = .ok (.istore_n 2, 1) := by decide +kernel
theorem dX11_runCommands_54 : decode cX11_runCommands 54 = .ok (.iload_n 2, 1) := by decide +kernel
theorem dX11_runCommands_55 : decode cX11_runCommands 55 = .ok (.aload_n 0, 1) := by decide +kernel
theorem dX11_runCommands_56 : decode cX11_runCommands 56 = .ok (.getfield 46, 3) := by decide +kernel
theorem dX11_runCommands_59 : decode cX11_runCommands 59 = .ok (.getfield 302, 3) := by decide +kernel
theorem dX11_runCommands_62 : decode cX11_runCommands 62 = .ok (.if_icmp .ge 74, 3) := by decide +kernel
theorem dX11_runCommands_65 : decode cX11_runCommands 65 = .ok (.aload_n 0, 1) := by decide +kernel
theorem dX11_runCommands_66 : decode cX11_runCommands 66 = .ok (.aload_n 0, 1) := by decide +kernel
theorem dX11_runCommands_67 : decode cX11_runCommands 67 = .ok (.getfield 46, 3) := by decide +kernel
theorem dX11_runCommands_70 : decode cX11_runCommands 70 = .ok (.getfield 305, 3) := by decide +kernel
theorem dX11_runCommands_73 : decode cX11_runCommands 73 = .ok (.iload_n 2, 1) := by decide +kernel
theorem dX11_runCommands_74 : decode cX11_runCommands 74 = .ok (.aaload, 1) := by decide +kernel
theorem dX11_runCommands_75 : decode cX11_runCommands 75 = .ok (.invokevirtual 309, 3) := by decide +kernel
theorem dX11_runCommands_78 : decode cX11_runCommands 78 = .ok (.istore_n 3, 1) := by decide +kernel
theorem dX11_runCommands_79 : decode cX11_runCommands 79 = .ok (.iload_n 3, 1) := by decide +kernel
theorem dX11_runCommands_80 : decode cX11_runCommands 80 = .ok (.bipush 32, 2) := by decide +kernel
theorem dX11_runCommands_82 : decode cX11_runCommands 82 = .ok (.if_icmp .eq 35, 3) := by decide +kernel
theorem dX11_runCommands_85 : decode cX11_runCommands 85 = .ok (.aload_n 0, 1) := by decide +kernel
theorem dX11_runCommands_86 : decode cX11_runCommands 86 = .ok (.getfield 12, 3) := by decide +kernel
theorem dX11_runCommands_89 : decode cX11_runCommands 89 = .ok (.aload_n 0, 1) := by decide +kernel
theorem dX11_runCommands_90 : decode cX11_runCommands 90 = .ok (.getfield 16, 3) := by decide +kernel
theorem dX11_runCommands_93 : decode cX11_runCommands 93 = .ok (.invokevirtual 299, 3) := by decide +kernel
theorem dX11_runCommands_96 : decode cX11_runCommands 96 = .ok (.aload_n 0, 1) := by decide +kernel
theorem dX11_runCommands_97 : decode cX11_runCommands 97 = .ok (.iload_n 2, 1) := by decide +kernel
theorem dX11_runCommands_98 : decode cX11_runCommands 98 = .ok (.putfield 61, 3) := by decide +kernel
theorem dX11_runCommands_101 : decode cX11_runCommands 101 = .ok (.aload_n 0, 1) := by decide +kernel
theorem dX11_runCommands_102 : decode cX11_runCommands 102 = .ok (.iload_n 3, 1) := by decide +kernel
theorem dX11_runCommands_103 : decode cX11_runCommands 103 = .ok (.putfield 64, 3) := by decide +kernel
theorem dX11_runCommands_106 : decode cX11_runCommands 106 = .ok (.new 313, 3) := by decide +kernel
theorem dX11_runCommands_109 : decode cX11_runCommands 109 = .ok (.dup, 1) := by decide +kernel
theorem dX11_runCommands_110 : decode cX11_runCommands 110 = .ok (.ldc_w 315, 3) := by decide +kernel
theorem dX11_runCommands_113 : decode cX11_runCommands 113 = .ok (.invokespecial 317, 3) := by decide +kernel
theorem dX11_runCommands_116 : decode cX11_runCommands 116 = .ok (.athrow, 1) := by decide +kernel
theorem dX11_runCommands_117 : decode cX11_runCommands 117 = .ok (.aload_n 0, 1) := by decide +kernel
theorem dX11_runCommands_118 : decode cX11_runCommands 118 = .ok (.aload_n 0, 1) := by decide +kernel
theorem dX11_runCommands_119 : decode cX11_runCommands 119 = .ok (.getfield 46, 3) := by decide +kernel
theorem dX11_runCommands_122 : decode cX11_runCommands 122 = .ok (.getfield 305, 3) := by decide +kernel
theorem dX11_runCommands_125 : decode cX11_runCommands 125 = .ok (.iload_n 2, 1) := by decide +kernel
theorem dX11_runCommands_126 : decode cX11_runCommands 126 = .ok (.aaload, 1) := by decide +kernel
theorem dX11_runCommands_127 : decode cX11_runCommands 127 = .ok (.invokevirtual 318, 3) := by decide +kernel
theorem dX11_runCommands_130 : decode cX11_runCommands 130 = .ok (.iinc 2 1, 3) := by decide +kernel
theorem dX11_runCommands_133 : decode cX11_runCommands 133 = .ok (.goto (-79), 3) := by decide +kernel
theorem dX11_runCommands_136 : decode cX11_runCommands 136 = .ok (.aload_n 0, 1) := by decide +kernel
theorem dX11_runCommands_137 : decode cX11_runCommands 137 = .ok (.getfield 25, 3) := by decide +kernel
theorem dX11_runCommands_140 : decode cX11_runCommands 140 = .ok (.aload_n 0, 1) := by decide +kernel
theorem dX11_runCommands_141 : decode cX11_runCommands 141 = .ok (.getfield 16, 3) := by decide +kernel
theorem dX11_runCommands_144 : decode cX11_runCommands 144 = .ok (.invokevirtual 76, 3) := by decide +kernel
theorem dX11_runCommands_147 : decode cX11_runCommands 147 = .ok (.aload_n 0, 1) := by decide +kernel
theorem dX11_runCommands_148 : decode cX11_runCommands 148 = .ok (.getfield 46, 3) := by decide +kernel
theorem dX11_runCommands_151 : decode cX11_runCommands 151 = .ok (.getfield 302, 3) := by decide +kernel
theorem dX11_runCommands_154 : decode cX11_runCommands 154 = .ok (.ireturn, 1) := by decide +kernel
theorem dX11_faultOf_0 : decode cX11_faultOf 0 = .ok (.getstatic 322, 3) := by decide +kernel
theorem dX11_faultOf_3 : decode cX11_faultOf 3 = .ok (.aload_n 1, 1) := by decide +kernel
theorem dX11_faultOf_4 : decode cX11_faultOf 4 = .ok (.getfield 327, 3) := by decide +kernel
theorem dX11_faultOf_7 : decode cX11_faultOf 7 = .ok (.invokevirtual 333, 3) := by decide +kernel
theorem dX11_faultOf_10 : decode cX11_faultOf 10 = .ok (.iaload, 1) := by decide +kernel
theorem dX11_faultOf_11 : decode cX11_faultOf 11 = .ok (.tableswitch 117 1 6 #[37, 45, 57, 69, 89, 105], 37) := by decide +kernel
theorem dX11_faultOf_48 : decode cX11_faultOf 48 = .ok (.aload_n 0, 1) := by decide +kernel
theorem dX11_faultOf_49 : decode cX11_faultOf 49 = .ok (.getfield 12, 3) := by decide +kernel
theorem dX11_faultOf_52 : decode cX11_faultOf 52 = .ok (.invokevirtual 68, 3) := by decide +kernel
theorem dX11_faultOf_55 : decode cX11_faultOf 55 = .ok (.ireturn, 1) := by decide +kernel
theorem dX11_faultOf_56 : decode cX11_faultOf 56 = .ok (.aload_n 0, 1) := by decide +kernel
theorem dX11_faultOf_57 : decode cX11_faultOf 57 = .ok (.getfield 12, 3) := by decide +kernel
theorem dX11_faultOf_60 : decode cX11_faultOf 60 = .ok (.aload_n 1, 1) := by decide +kernel
theorem dX11_faultOf_61 : decode cX11_faultOf 61 = .ok (.invokevirtual 338, 3) := by decide +kernel
theorem dX11_faultOf_64 : decode cX11_faultOf 64 = .ok (.invokevirtual 90, 3) := by decide +kernel
theorem dX11_faultOf_67 : decode cX11_faultOf 67 = .ok (.ireturn, 1) := by decide +kernel
theorem dX11_faultOf_68 : decode cX11_faultOf 68 = .ok (.aload_n 0, 1) := by decide +kernel
theorem dX11_faultOf_69 : decode cX11_faultOf 69 = .ok (.getfield 12, 3) := by decide +kernel
theorem dX11_faultOf_72 : decode cX11_faultOf 72 = .ok (.aload_n 1, 1) := by decide +kernel
theorem dX11_faultOf_73 : decode cX11_faultOf 73 = .ok (.invokevirtual 338, 3) := by decide +kernel
theorem dX11_faultOf_76 : decode cX11_faultOf 76 = .ok (.invokevirtual 103, 3) := by decide +kernel
theorem dX11_faultOf_79 : decode cX11_faultOf 79 = .ok (.ireturn, 1) := by decide +kernel
theorem dX11_faultOf_80 : decode cX11_faultOf 80 = .ok (.aload_n 0, 1) := by decide +kernel
theorem dX11_faultOf_81 : decode cX11_faultOf 81 = .ok (.getfield 12, 3) := by decide +kernel
theorem dX11_faultOf_84 : decode cX11_faultOf 84 = .ok (.aload_n 1, 1) := by decide +kernel
theorem dX11_faultOf_85 : decode cX11_faultOf 85 = .ok (.invokevirtual 338, 3) := by decide +kernel
theorem dX11_faultOf_88 : decode cX11_faultOf 88 = .ok (.aload_n 1, 1) := by decide +kernel
theorem dX11_faultOf_89 : decode cX11_faultOf 89 = .ok (.invokevirtual 341, 3) := by decide +kernel
theorem dX11_faultOf_92 : decode cX11_faultOf 92 = .ok (.aload_n 1, 1) := by decide +kernel
theorem dX11_faultOf_93 : decode cX11_faultOf 93 = .ok (.invokevirtual 344, 3) := by decide +kernel
theorem dX11_faultOf_96 : decode cX11_faultOf 96 = .ok (.invokevirtual 109, 3) := by decide +kernel
theorem dX11_faultOf_99 : decode cX11_faultOf 99 = .ok (.ireturn, 1) := by decide +kernel
theorem dX11_faultOf_100 : decode cX11_faultOf 100 = .ok (.aload_n 0, 1) := by decide +kernel
theorem dX11_faultOf_101 : decode cX11_faultOf 101 = .ok (.getfield 12, 3) := by decide +kernel
theorem dX11_faultOf_104 : decode cX11_faultOf 104 = .ok (.aload_n 1, 1) := by decide +kernel
theorem dX11_faultOf_105 : decode cX11_faultOf 105 = .ok (.invokevirtual 338, 3) := by decide +kernel
theorem dX11_faultOf_108 : decode cX11_faultOf 108 = .ok (.aload_n 1, 1) := by decide +kernel
theorem dX11_faultOf_109 : decode cX11_faultOf 109 = .ok (.invokevirtual 341, 3) := by decide +kernel
theorem dX11_faultOf_112 : decode cX11_faultOf 112 = .ok (.invokevirtual 117, 3) := by decide +kernel
theorem dX11_faultOf_115 : decode cX11_faultOf 115 = .ok (.ireturn, 1) := by decide +kernel
theorem dX11_faultOf_116 : decode cX11_faultOf 116 = .ok (.aload_n 0, 1) := by decide +kernel
theorem dX11_faultOf_117 : decode cX11_faultOf 117 = .ok (.getfield 12, 3) := by decide +kernel
theorem dX11_faultOf_120 : decode cX11_faultOf 120 = .ok (.aload_n 1, 1) := by decide +kernel
theorem dX11_faultOf_121 : decode cX11_faultOf 121 = .ok (.invokevirtual 338, 3) := by decide +kernel
theorem dX11_faultOf_124 : decode cX11_faultOf 124 = .ok (.invokevirtual 130, 3) := by decide +kernel
theorem dX11_faultOf_127 : decode cX11_faultOf 127 = .ok (.ireturn, 1) := by decide +kernel
theorem dX11_faultOf_128 : decode cX11_faultOf 128 = .ok (.aload_n 0, 1) := by decide +kernel
theorem dX11_faultOf_129 : decode cX11_faultOf 129 = .ok (.getfield 12, 3) := by decide +kernel
theorem dX11_faultOf_132 : decode cX11_faultOf 132 = .ok (.aload_n 1, 1) := by decide +kernel
theorem dX11_faultOf_133 : decode cX11_faultOf 133 = .ok (.invokevirtual 338, 3) := by decide +kernel
theorem dX11_faultOf_136 : decode cX11_faultOf 136 = .ok (.invokevirtual 136, 3) := by decide +kernel
theorem dX11_faultOf_139 : decode cX11_faultOf 139 = .ok (.ireturn, 1) := by decide +kernel
theorem dX11_carryOut_0 : decode cX11_carryOut 0 = .ok (.getstatic 322, 3) := by decide +kernel
theorem dX11_carryOut_3 : decode cX11_carryOut 3 = .ok (.aload_n 1, 1) := by decide +kernel
theorem dX11_carryOut_4 : decode cX11_carryOut 4 = .ok (.getfield 327, 3) := by decide +kernel
theorem dX11_carryOut_7 : decode cX11_carryOut 7 = .ok (.invokevirtual 333, 3) := by decide +kernel
theorem dX11_carryOut_10 : decode cX11_carryOut 10 = .ok (.iaload, 1) := by decide +kernel
theorem dX11_carryOut_11 : decode cX11_carryOut 11 = .ok (.tableswitch 144 1 6 #[37, 51, 69, 84, 107, 129], 37) := by decide +kernel
theorem dX11_carryOut_48 : decode cX11_carryOut 48 = .ok (.aload_n 0, 1) := by decide +kernel
theorem dX11_carryOut_49 : decode cX11_carryOut 49 = .ok (.getfield 12, 3) := by decide +kernel
theorem dX11_carryOut_52 : decode cX11_carryOut 52 = .ok (.getfield 80, 3) := by decide +kernel
theorem dX11_carryOut_55 : decode cX11_carryOut 55 = .ok (.invokevirtual 84, 3) := by decide +kernel
theorem dX11_carryOut_58 : decode cX11_carryOut 58 = .ok (.pop, 1) := by decide +kernel
theorem dX11_carryOut_59 : decode cX11_carryOut 59 = .ok (.goto 108, 3) := by decide +kernel
theorem dX11_carryOut_62 : decode cX11_carryOut 62 = .ok (.aload_n 0, 1) := by decide +kernel
theorem dX11_carryOut_63 : decode cX11_carryOut 63 = .ok (.getfield 12, 3) := by decide +kernel
theorem dX11_carryOut_66 : decode cX11_carryOut 66 = .ok (.getfield 94, 3) := by decide +kernel
theorem dX11_carryOut_69 : decode cX11_carryOut 69 = .ok (.aload_n 1, 1) := by decide +kernel
theorem dX11_carryOut_70 : decode cX11_carryOut 70 = .ok (.invokevirtual 338, 3) := by decide +kernel
theorem dX11_carryOut_73 : decode cX11_carryOut 73 = .ok (.invokevirtual 98, 3) := by decide +kernel
theorem dX11_carryOut_76 : decode cX11_carryOut 76 = .ok (.pop, 1) := by decide +kernel
theorem dX11_carryOut_77 : decode cX11_carryOut 77 = .ok (.goto 90, 3) := by decide +kernel
theorem dX11_carryOut_80 : decode cX11_carryOut 80 = .ok (.aload_n 0, 1) := by decide +kernel
theorem dX11_carryOut_81 : decode cX11_carryOut 81 = .ok (.getfield 12, 3) := by decide +kernel
theorem dX11_carryOut_84 : decode cX11_carryOut 84 = .ok (.aload_n 1, 1) := by decide +kernel
theorem dX11_carryOut_85 : decode cX11_carryOut 85 = .ok (.invokevirtual 338, 3) := by decide +kernel
theorem dX11_carryOut_88 : decode cX11_carryOut 88 = .ok (.invokevirtual 106, 3) := by decide +kernel
theorem dX11_carryOut_91 : decode cX11_carryOut 91 = .ok (.pop, 1) := by decide +kernel
theorem dX11_carryOut_92 : decode cX11_carryOut 92 = .ok (.goto 75, 3) := by decide +kernel
theorem dX11_carryOut_95 : decode cX11_carryOut 95 = .ok (.aload_n 0, 1) := by decide +kernel
theorem dX11_carryOut_96 : decode cX11_carryOut 96 = .ok (.getfield 12, 3) := by decide +kernel
theorem dX11_carryOut_99 : decode cX11_carryOut 99 = .ok (.aload_n 1, 1) := by decide +kernel
theorem dX11_carryOut_100 : decode cX11_carryOut 100 = .ok (.invokevirtual 338, 3) := by decide +kernel
theorem dX11_carryOut_103 : decode cX11_carryOut 103 = .ok (.aload_n 1, 1) := by decide +kernel
theorem dX11_carryOut_104 : decode cX11_carryOut 104 = .ok (.invokevirtual 341, 3) := by decide +kernel
theorem dX11_carryOut_107 : decode cX11_carryOut 107 = .ok (.aload_n 1, 1) := by decide +kernel
theorem dX11_carryOut_108 : decode cX11_carryOut 108 = .ok (.invokevirtual 344, 3) := by decide +kernel
theorem dX11_carryOut_111 : decode cX11_carryOut 111 = .ok (.invokevirtual 113, 3) := by decide +kernel
theorem dX11_carryOut_114 : decode cX11_carryOut 114 = .ok (.pop, 1) := by decide +kernel
theorem dX11_carryOut_115 : decode cX11_carryOut 115 = .ok (.goto 52, 3) := by decide +kernel
theorem dX11_carryOut_118 : decode cX11_carryOut 118 = .ok (.aload_n 0, 1) := by decide +kernel
theorem dX11_carryOut_119 : decode cX11_carryOut 119 = .ok (.getfield 12, 3) := by decide +kernel
theorem dX11_carryOut_122 : decode cX11_carryOut 122 = .ok (.getfield 121, 3) := by decide +kernel
theorem dX11_carryOut_125 : decode cX11_carryOut 125 = .ok (.aload_n 1, 1) := by decide +kernel
theorem dX11_carryOut_126 : decode cX11_carryOut 126 = .ok (.invokevirtual 338, 3) := by decide +kernel
theorem dX11_carryOut_129 : decode cX11_carryOut 129 = .ok (.aload_n 1, 1) := by decide +kernel
theorem dX11_carryOut_130 : decode cX11_carryOut 130 = .ok (.invokevirtual 341, 3) := by decide +kernel
theorem dX11_carryOut_133 : decode cX11_carryOut 133 = .ok (.invokevirtual 125, 3) := by decide +kernel
theorem dX11_carryOut_136 : decode cX11_carryOut 136 = .ok (.pop, 1) := by decide +kernel
theorem dX11_carryOut_137 : decode cX11_carryOut 137 = .ok (.goto 30, 3) := by decide +kernel
theorem dX11_carryOut_140 : decode cX11_carryOut 140 = .ok (.aload_n 0, 1) := by decide +kernel
theorem dX11_carryOut_141 : decode cX11_carryOut 141 = .ok (.getfield 12, 3) := by decide +kernel
theorem dX11_carryOut_144 : decode cX11_carryOut 144 = .ok (.aload_n 1, 1) := by decide +kernel
theorem dX11_carryOut_145 : decode cX11_carryOut 145 = .ok (.invokevirtual 338, 3) := by decide +kernel
theorem dX11_carryOut_148 : decode cX11_carryOut 148 = .ok (.invokevirtual 133, 3) := by decide +kernel
theorem dX11_carryOut_151 : decode cX11_carryOut 151 = .ok (.pop, 1) := by decide +kernel
theorem dX11_carryOut_152 : decode cX11_carryOut 152 = .ok (.goto 15, 3) := by decide +kernel
theorem dX11_carryOut_155 : decode cX11_carryOut 155 = .ok (.aload_n 0, 1) := by decide +kernel
theorem dX11_carryOut_156 : decode cX11_carryOut 156 = .ok (.getfield 12, 3) := by decide +kernel
theorem dX11_carryOut_159 : decode cX11_carryOut 159 = .ok (.aload_n 1, 1) := by decide +kernel
theorem dX11_carryOut_160 : decode cX11_carryOut 160 = .ok (.invokevirtual 338, 3) := by decide +kernel
theorem dX11_carryOut_163 : decode cX11_carryOut 163 = .ok (.invokevirtual 139, 3) := by decide +kernel
theorem dX11_carryOut_166 : decode cX11_carryOut 166 = .ok (.pop, 1) := by decide +kernel
theorem dX11_carryOut_167 : decode cX11_carryOut 167 = .ok (.return_, 1) := by decide +kernel
theorem dX11_errorPosition_0 : decode cX11_errorPosition 0 = .ok (.aload_n 0, 1) := by decide +kernel
theorem dX11_errorPosition_1 : decode cX11_errorPosition 1 = .ok (.getfield 57, 3) := by decide +kernel
theorem dX11_errorPosition_4 : decode cX11_errorPosition 4 = .ok (.invokestatic 205, 3) := by decide +kernel
theorem dX11_errorPosition_7 : decode cX11_errorPosition 7 = .ok (.aload_n 0, 1) := by decide +kernel
theorem dX11_errorPosition_8 : decode cX11_errorPosition 8 = .ok (.getfield 57, 3) := by decide +kernel
theorem dX11_errorPosition_11 : decode cX11_errorPosition 11 = .ok (.ireturn, 1) := by decide +kernel
theorem dX11_failedCommand_0 : decode cX11_failedCommand 0 = .ok (.aload_n 0, 1) := by decide +kernel
theorem dX11_failedCommand_1 : decode cX11_failedCommand 1 = .ok (.getfield 61, 3) := by decide +kernel
theorem dX11_failedCommand_4 : decode cX11_failedCommand 4 = .ok (.invokestatic 205, 3) := by decide +kernel
theorem dX11_failedCommand_7 : decode cX11_failedCommand 7 = .ok (.aload_n 0, 1) := by decide +kernel
theorem dX11_failedCommand_8 : decode cX11_failedCommand 8 = .ok (.getfield 61, 3) := by decide +kernel
theorem dX11_failedCommand_11 : decode cX11_failedCommand 11 = .ok (.ireturn, 1) := by decide +kernel
theorem dX11_failureReason_0 : decode cX11_failureReason 0 = .ok (.aload_n 0, 1) := by decide +kernel
theorem dX11_failureReason_1 : decode cX11_failureReason 1 = .ok (.getfield 61, 3) := by decide +kernel
theorem dX11_failureReason_4 : decode cX11_failureReason 4 = .ok (.invokestatic 205, 3) := by decide +kernel
theorem dX11_failureReason_7 : decode cX11_failureReason 7 = .ok (.aload_n 0, 1) := by decide +kernel
theorem dX11_failureReason_8 : decode cX11_failureReason 8 = .ok (.getfield 64, 3) := by decide +kernel
theorem dX11_failureReason_11 : decode cX11_failureReason 11 = .ok (.ireturn, 1) := by decide +kernel
theorem dX11_writeLamps_0 : decode cX11_writeLamps 0 = .ok (.aload_n 0, 1) := by decide +kernel
theorem dX11_writeLamps_1 : decode cX11_writeLamps 1 = .ok (.getfield 53, 3) := by decide +kernel
theorem dX11_writeLamps_4 : decode cX11_writeLamps 4 = .ok (.iconst 0, 1) := by decide +kernel
theorem dX11_writeLamps_5 : decode cX11_writeLamps 5 = .ok (.invokevirtual 347, 3) := by decide +kernel
theorem dX11_writeLamps_8 : decode cX11_writeLamps 8 = .ok (.iconst 0, 1) := by decide +kernel
theorem dX11_writeLamps_9 : decode cX11_writeLamps 9 = .ok (.istore_n 1, 1) := by decide +kernel
theorem dX11_writeLamps_10 : decode cX11_writeLamps 10 = .ok (.iload_n 1, 1) := by decide +kernel
theorem dX11_writeLamps_11 : decode cX11_writeLamps 11 = .ok (.aload_n 0, 1) := by decide +kernel
theorem dX11_writeLamps_12 : decode cX11_writeLamps 12 = .ok (.getfield 12, 3) := by decide +kernel
theorem dX11_writeLamps_15 : decode cX11_writeLamps 15 = .ok (.getfield 94, 3) := by decide +kernel
theorem dX11_writeLamps_18 : decode cX11_writeLamps 18 = .ok (.getfield 168, 3) := by decide +kernel
theorem dX11_writeLamps_21 : decode cX11_writeLamps 21 = .ok (.if_icmp .ge 28, 3) := by decide +kernel
theorem dX11_writeLamps_24 : decode cX11_writeLamps 24 = .ok (.iload_n 1, 1) := by decide +kernel
theorem dX11_writeLamps_25 : decode cX11_writeLamps 25 = .ok (.ifCond .le 13, 3) := by decide +kernel
theorem dX11_writeLamps_28 : decode cX11_writeLamps 28 = .ok (.aload_n 0, 1) := by decide +kernel
theorem dX11_writeLamps_29 : decode cX11_writeLamps 29 = .ok (.getfield 53, 3) := by decide +kernel
theorem dX11_writeLamps_32 : decode cX11_writeLamps 32 = .ok (.bipush 32, 2) := by decide +kernel
theorem dX11_writeLamps_34 : decode cX11_writeLamps 34 = .ok (.invokevirtual 350, 3) := by decide +kernel
theorem dX11_writeLamps_37 : decode cX11_writeLamps 37 = .ok (.pop, 1) := by decide +kernel
theorem dX11_writeLamps_38 : decode cX11_writeLamps 38 = .ok (.aload_n 0, 1) := by decide +kernel
theorem dX11_writeLamps_39 : decode cX11_writeLamps 39 = .ok (.iload_n 1, 1) := by decide +kernel
theorem dX11_writeLamps_40 : decode cX11_writeLamps 40 = .ok (.invokevirtual 353, 3) := by decide +kernel
theorem dX11_writeLamps_43 : decode cX11_writeLamps 43 = .ok (.iinc 1 1, 3) := by decide +kernel
theorem dX11_writeLamps_46 : decode cX11_writeLamps 46 = .ok (.goto (-36), 3) := by decide +kernel
theorem dX11_writeLamps_49 : decode cX11_writeLamps 49 = .ok (.aload_n 0, 1) := by decide +kernel
theorem dX11_writeLamps_50 : decode cX11_writeLamps 50 = .ok (.getfield 53, 3) := by decide +kernel
theorem dX11_writeLamps_53 : decode cX11_writeLamps 53 = .ok (.invokevirtual 356, 3) := by decide +kernel
theorem dX11_writeLamps_56 : decode cX11_writeLamps 56 = .ok (.ireturn, 1) := by decide +kernel
theorem dX11_describe_0 : decode cX11_describe 0 = .ok (.aload_n 0, 1) := by decide +kernel
theorem dX11_describe_1 : decode cX11_describe 1 = .ok (.getfield 53, 3) := by decide +kernel
theorem dX11_describe_4 : decode cX11_describe 4 = .ok (.aload_n 0, 1) := by decide +kernel
theorem dX11_describe_5 : decode cX11_describe 5 = .ok (.getfield 12, 3) := by decide +kernel
theorem dX11_describe_8 : decode cX11_describe 8 = .ok (.getfield 94, 3) := by decide +kernel
theorem dX11_describe_11 : decode cX11_describe 11 = .ok (.getfield 172, 3) := by decide +kernel
theorem dX11_describe_14 : decode cX11_describe 14 = .ok (.iload_n 1, 1) := by decide +kernel
theorem dX11_describe_15 : decode cX11_describe 15 = .ok (.iaload, 1) := by decide +kernel
theorem dX11_describe_16 : decode cX11_describe 16 = .ok (.invokevirtual 358, 3) := by decide +kernel
theorem dX11_describe_19 : decode cX11_describe 19 = .ok (.pop, 1) := by decide +kernel
theorem dX11_describe_20 : decode cX11_describe 20 = .ok (.aload_n 0, 1) := by decide +kernel
theorem dX11_describe_21 : decode cX11_describe 21 = .ok (.getfield 12, 3) := by decide +kernel
theorem dX11_describe_24 : decode cX11_describe 24 = .ok (.getfield 94, 3) := by decide +kernel
theorem dX11_describe_27 : decode cX11_describe 27 = .ok (.iload_n 1, 1) := by decide +kernel
theorem dX11_describe_28 : decode cX11_describe 28 = .ok (.invokevirtual 175, 3) := by decide +kernel
theorem dX11_describe_31 : decode cX11_describe 31 = .ok (.ifCond .ne 4, 3) := by decide +kernel
theorem dX11_describe_34 : decode cX11_describe 34 = .ok (.return_, 1) := by decide +kernel
theorem dX11_describe_35 : decode cX11_describe 35 = .ok (.aload_n 0, 1) := by decide +kernel
theorem dX11_describe_36 : decode cX11_describe 36 = .ok (.getfield 53, 3) := by decide +kernel
theorem dX11_describe_39 : decode cX11_describe 39 = .ok (.bipush 115, 2) := by decide +kernel
theorem dX11_describe_41 : decode cX11_describe 41 = .ok (.invokevirtual 350, 3) := by decide +kernel
theorem dX11_describe_44 : decode cX11_describe 44 = .ok (.aload_n 0, 1) := by decide +kernel
theorem dX11_describe_45 : decode cX11_describe 45 = .ok (.getfield 12, 3) := by decide +kernel
theorem dX11_describe_48 : decode cX11_describe 48 = .ok (.getfield 94, 3) := by decide +kernel
theorem dX11_describe_51 : decode cX11_describe 51 = .ok (.getfield 179, 3) := by decide +kernel
theorem dX11_describe_54 : decode cX11_describe 54 = .ok (.iload_n 1, 1) := by decide +kernel
theorem dX11_describe_55 : decode cX11_describe 55 = .ok (.iaload, 1) := by decide +kernel
theorem dX11_describe_56 : decode cX11_describe 56 = .ok (.invokevirtual 358, 3) := by decide +kernel
theorem dX11_describe_59 : decode cX11_describe 59 = .ok (.pop, 1) := by decide +kernel
theorem dX11_describe_60 : decode cX11_describe 60 = .ok (.aload_n 0, 1) := by decide +kernel
theorem dX11_describe_61 : decode cX11_describe 61 = .ok (.getfield 53, 3) := by decide +kernel
theorem dX11_describe_64 : decode cX11_describe 64 = .ok (.bipush 101, 2) := by decide +kernel
theorem dX11_describe_66 : decode cX11_describe 66 = .ok (.invokevirtual 350, 3) := by decide +kernel
theorem dX11_describe_69 : decode cX11_describe 69 = .ok (.aload_n 0, 1) := by decide +kernel
theorem dX11_describe_70 : decode cX11_describe 70 = .ok (.getfield 12, 3) := by decide +kernel
theorem dX11_describe_73 : decode cX11_describe 73 = .ok (.getfield 94, 3) := by decide +kernel
theorem dX11_describe_76 : decode cX11_describe 76 = .ok (.getfield 182, 3) := by decide +kernel
theorem dX11_describe_79 : decode cX11_describe 79 = .ok (.iload_n 1, 1) := by decide +kernel
theorem dX11_describe_80 : decode cX11_describe 80 = .ok (.iaload, 1) := by decide +kernel
theorem dX11_describe_81 : decode cX11_describe 81 = .ok (.invokevirtual 358, 3) := by decide +kernel
theorem dX11_describe_84 : decode cX11_describe 84 = .ok (.pop, 1) := by decide +kernel
theorem dX11_describe_85 : decode cX11_describe 85 = .ok (.aload_n 0, 1) := by decide +kernel
theorem dX11_describe_86 : decode cX11_describe 86 = .ok (.getfield 12, 3) := by decide +kernel
theorem dX11_describe_89 : decode cX11_describe 89 = .ok (.getfield 121, 3) := by decide +kernel
theorem dX11_describe_92 : decode cX11_describe 92 = .ok (.iload_n 1, 1) := by decide +kernel
theorem dX11_describe_93 : decode cX11_describe 93 = .ok (.invokevirtual 361, 3) := by decide +kernel
theorem dX11_describe_96 : decode cX11_describe 96 = .ok (.iconst (-1), 1) := by decide +kernel
theorem dX11_describe_97 : decode cX11_describe 97 = .ok (.if_icmp .eq 13, 3) := by decide +kernel
theorem dX11_describe_100 : decode cX11_describe 100 = .ok (.aload_n 0, 1) := by decide +kernel
theorem dX11_describe_101 : decode cX11_describe 101 = .ok (.getfield 53, 3) := by decide +kernel
theorem dX11_describe_104 : decode cX11_describe 104 = .ok (.bipush 114, 2) := by decide +kernel
theorem dX11_describe_106 : decode cX11_describe 106 = .ok (.invokevirtual 350, 3) := by decide +kernel
theorem dX11_describe_109 : decode cX11_describe 109 = .ok (.pop, 1) := by decide +kernel
theorem dX11_describe_110 : decode cX11_describe 110 = .ok (.return_, 1) := by decide +kernel
theorem dX11_outputChar_0 : decode cX11_outputChar 0 = .ok (.iload_n 1, 1) := by decide +kernel
theorem dX11_outputChar_1 : decode cX11_outputChar 1 = .ok (.ifCond .lt 14, 3) := by decide +kernel
theorem dX11_outputChar_4 : decode cX11_outputChar 4 = .ok (.iload_n 1, 1) := by decide +kernel
theorem dX11_outputChar_5 : decode cX11_outputChar 5 = .ok (.aload_n 0, 1) := by decide +kernel
theorem dX11_outputChar_6 : decode cX11_outputChar 6 = .ok (.getfield 53, 3) := by decide +kernel
theorem dX11_outputChar_9 : decode cX11_outputChar 9 = .ok (.invokevirtual 356, 3) := by decide +kernel
theorem dX11_outputChar_12 : decode cX11_outputChar 12 = .ok (.if_icmp .lt 14, 3) := by decide +kernel
theorem dX11_outputChar_15 : decode cX11_outputChar 15 = .ok (.new 364, 3) := by decide +kernel
theorem dX11_outputChar_18 : decode cX11_outputChar 18 = .ok (.dup, 1) := by decide +kernel
theorem dX11_outputChar_19 : decode cX11_outputChar 19 = .ok (.ldc_w 366, 3) := by decide +kernel
theorem dX11_outputChar_22 : decode cX11_outputChar 22 = .ok (.invokespecial 368, 3) := by decide +kernel
theorem dX11_outputChar_25 : decode cX11_outputChar 25 = .ok (.athrow, 1) := by decide +kernel
theorem dX11_outputChar_26 : decode cX11_outputChar 26 = .ok (.aload_n 0, 1) := by decide +kernel
theorem dX11_outputChar_27 : decode cX11_outputChar 27 = .ok (.getfield 53, 3) := by decide +kernel
theorem dX11_outputChar_30 : decode cX11_outputChar 30 = .ok (.iload_n 1, 1) := by decide +kernel
theorem dX11_outputChar_31 : decode cX11_outputChar 31 = .ok (.invokevirtual 369, 3) := by decide +kernel
theorem dX11_outputChar_34 : decode cX11_outputChar 34 = .ok (.ireturn, 1) := by decide +kernel
theorem dX11_undoCount_0 : decode cX11_undoCount 0 = .ok (.aload_n 0, 1) := by decide +kernel
theorem dX11_undoCount_1 : decode cX11_undoCount 1 = .ok (.getfield 25, 3) := by decide +kernel
theorem dX11_undoCount_4 : decode cX11_undoCount 4 = .ok (.getfield 372, 3) := by decide +kernel
theorem dX11_undoCount_7 : decode cX11_undoCount 7 = .ok (.ireturn, 1) := by decide +kernel
theorem dX11_undo_0 : decode cX11_undo 0 = .ok (.aload_n 0, 1) := by decide +kernel
theorem dX11_undo_1 : decode cX11_undo 1 = .ok (.getfield 25, 3) := by decide +kernel
theorem dX11_undo_4 : decode cX11_undo 4 = .ok (.getfield 372, 3) := by decide +kernel
theorem dX11_undo_7 : decode cX11_undo 7 = .ok (.ifCond .ne 14, 3) := by decide +kernel
theorem dX11_undo_10 : decode cX11_undo 10 = .ok (.new 277, 3) := by decide +kernel
theorem dX11_undo_13 : decode cX11_undo 13 = .ok (.dup, 1) := by decide +kernel
theorem dX11_undo_14 : decode cX11_undo 14 = .ok (.ldc_w 373, 3) := by decide +kernel
theorem dX11_undo_17 : decode cX11_undo 17 = .ok (.invokespecial 281, 3) := by decide +kernel
theorem dX11_undo_20 : decode cX11_undo 20 = .ok (.athrow, 1) := by decide +kernel
theorem dX11_undo_21 : decode cX11_undo 21 = .ok (.aload_n 0, 1) := by decide +kernel
theorem dX11_undo_22 : decode cX11_undo 22 = .ok (.getfield 25, 3) := by decide +kernel
theorem dX11_undo_25 : decode cX11_undo 25 = .ok (.aload_n 0, 1) := by decide +kernel
theorem dX11_undo_26 : decode cX11_undo 26 = .ok (.getfield 12, 3) := by decide +kernel
theorem dX11_undo_29 : decode cX11_undo 29 = .ok (.invokevirtual 375, 3) := by decide +kernel
theorem dX11_undo_32 : decode cX11_undo 32 = .ok (.aload_n 0, 1) := by decide +kernel
theorem dX11_undo_33 : decode cX11_undo 33 = .ok (.getfield 25, 3) := by decide +kernel
theorem dX11_undo_36 : decode cX11_undo 36 = .ok (.getfield 372, 3) := by decide +kernel
theorem dX11_undo_39 : decode cX11_undo 39 = .ok (.ireturn, 1) := by decide +kernel
theorem dX11_save_0 : decode cX11_save 0 = .ok (.aload_n 0, 1) := by decide +kernel
theorem dX11_save_1 : decode cX11_save 1 = .ok (.getfield 19, 3) := by decide +kernel
theorem dX11_save_4 : decode cX11_save 4 = .ok (.aload_n 0, 1) := by decide +kernel
theorem dX11_save_5 : decode cX11_save 5 = .ok (.getfield 12, 3) := by decide +kernel
theorem dX11_save_8 : decode cX11_save 8 = .ok (.invokevirtual 299, 3) := by decide +kernel
theorem dX11_save_11 : decode cX11_save 11 = .ok (.aload_n 0, 1) := by decide +kernel
theorem dX11_save_12 : decode cX11_save 12 = .ok (.iconst 1, 1) := by decide +kernel
theorem dX11_save_13 : decode cX11_save 13 = .ok (.putfield 378, 3) := by decide +kernel
theorem dX11_save_16 : decode cX11_save 16 = .ok (.aload_n 0, 1) := by decide +kernel
theorem dX11_save_17 : decode cX11_save 17 = .ok (.getfield 12, 3) := by decide +kernel
theorem dX11_save_20 : decode cX11_save 20 = .ok (.getfield 94, 3) := by decide +kernel
theorem dX11_save_23 : decode cX11_save 23 = .ok (.getfield 168, 3) := by decide +kernel
theorem dX11_save_26 : decode cX11_save 26 = .ok (.ireturn, 1) := by decide +kernel
theorem dX11_restore_0 : decode cX11_restore 0 = .ok (.aload_n 0, 1) := by decide +kernel
theorem dX11_restore_1 : decode cX11_restore 1 = .ok (.getfield 378, 3) := by decide +kernel
theorem dX11_restore_4 : decode cX11_restore 4 = .ok (.ifCond .ne 14, 3) := by decide +kernel
theorem dX11_restore_7 : decode cX11_restore 7 = .ok (.new 277, 3) := by decide +kernel
theorem dX11_restore_10 : decode cX11_restore 10 = .ok (.dup, 1) := by decide +kernel
theorem dX11_restore_11 : decode cX11_restore 11 = .ok (.ldc_w 382, 3) := by decide +kernel
theorem dX11_restore_14 : decode cX11_restore 14 = .ok (.invokespecial 281, 3) := by decide +kernel
theorem dX11_restore_17 : decode cX11_restore 17 = .ok (.athrow, 1) := by decide +kernel
theorem dX11_restore_18 : decode cX11_restore 18 = .ok (.aload_n 0, 1) := by decide +kernel
theorem dX11_restore_19 : decode cX11_restore 19 = .ok (.getfield 12, 3) := by decide +kernel
theorem dX11_restore_22 : decode cX11_restore 22 = .ok (.aload_n 0, 1) := by decide +kernel
theorem dX11_restore_23 : decode cX11_restore 23 = .ok (.getfield 19, 3) := by decide +kernel
theorem dX11_restore_26 : decode cX11_restore 26 = .ok (.invokevirtual 299, 3) := by decide +kernel
theorem dX11_restore_29 : decode cX11_restore 29 = .ok (.aload_n 0, 1) := by decide +kernel
theorem dX11_restore_30 : decode cX11_restore 30 = .ok (.getfield 25, 3) := by decide +kernel
theorem dX11_restore_33 : decode cX11_restore 33 = .ok (.invokevirtual 384, 3) := by decide +kernel
theorem dX11_restore_36 : decode cX11_restore 36 = .ok (.aload_n 0, 1) := by decide +kernel
theorem dX11_restore_37 : decode cX11_restore 37 = .ok (.getfield 12, 3) := by decide +kernel
theorem dX11_restore_40 : decode cX11_restore 40 = .ok (.getfield 94, 3) := by decide +kernel
theorem dX11_restore_43 : decode cX11_restore 43 = .ok (.getfield 168, 3) := by decide +kernel
theorem dX11_restore_46 : decode cX11_restore 46 = .ok (.ireturn, 1) := by decide +kernel
theorem dX11_throwFor_0 : decode cX11_throwFor 0 = .ok (.iload_n 0, 1) := by decide +kernel
theorem dX11_throwFor_1 : decode cX11_throwFor 1 = .ok (.bipush 105, 2) := by decide +kernel
theorem dX11_throwFor_3 : decode cX11_throwFor 3 = .ok (.if_icmp .ne 14, 3) := by decide +kernel
theorem dX11_throwFor_6 : decode cX11_throwFor 6 = .ok (.new 364, 3) := by decide +kernel
theorem dX11_throwFor_9 : decode cX11_throwFor 9 = .ok (.dup, 1) := by decide +kernel
theorem dX11_throwFor_10 : decode cX11_throwFor 10 = .ok (.ldc_w 385, 3) := by decide +kernel
theorem dX11_throwFor_13 : decode cX11_throwFor 13 = .ok (.invokespecial 368, 3) := by decide +kernel
theorem dX11_throwFor_16 : decode cX11_throwFor 16 = .ok (.athrow, 1) := by decide +kernel
theorem dX11_throwFor_17 : decode cX11_throwFor 17 = .ok (.iload_n 0, 1) := by decide +kernel
theorem dX11_throwFor_18 : decode cX11_throwFor 18 = .ok (.bipush 97, 2) := by decide +kernel
theorem dX11_throwFor_20 : decode cX11_throwFor 20 = .ok (.if_icmp .ne 14, 3) := by decide +kernel
theorem dX11_throwFor_23 : decode cX11_throwFor 23 = .ok (.new 294, 3) := by decide +kernel
theorem dX11_throwFor_26 : decode cX11_throwFor 26 = .ok (.dup, 1) := by decide +kernel
theorem dX11_throwFor_27 : decode cX11_throwFor 27 = .ok (.ldc_w 387, 3) := by decide +kernel
theorem dX11_throwFor_30 : decode cX11_throwFor 30 = .ok (.invokespecial 298, 3) := by decide +kernel
theorem dX11_throwFor_33 : decode cX11_throwFor 33 = .ok (.athrow, 1) := by decide +kernel
theorem dX11_throwFor_34 : decode cX11_throwFor 34 = .ok (.iload_n 0, 1) := by decide +kernel
theorem dX11_throwFor_35 : decode cX11_throwFor 35 = .ok (.bipush 115, 2) := by decide +kernel
theorem dX11_throwFor_37 : decode cX11_throwFor 37 = .ok (.if_icmp .ne 14, 3) := by decide +kernel
theorem dX11_throwFor_40 : decode cX11_throwFor 40 = .ok (.new 277, 3) := by decide +kernel
theorem dX11_throwFor_43 : decode cX11_throwFor 43 = .ok (.dup, 1) := by decide +kernel
theorem dX11_throwFor_44 : decode cX11_throwFor 44 = .ok (.ldc_w 389, 3) := by decide +kernel
theorem dX11_throwFor_47 : decode cX11_throwFor 47 = .ok (.invokespecial 281, 3) := by decide +kernel
theorem dX11_throwFor_50 : decode cX11_throwFor 50 = .ok (.athrow, 1) := by decide +kernel
theorem dX11_throwFor_51 : decode cX11_throwFor 51 = .ok (.iload_n 0, 1) := by decide +kernel
theorem dX11_throwFor_52 : decode cX11_throwFor 52 = .ok (.bipush 110, 2) := by decide +kernel
theorem dX11_throwFor_54 : decode cX11_throwFor 54 = .ok (.if_icmp .ne 14, 3) := by decide +kernel
theorem dX11_throwFor_57 : decode cX11_throwFor 57 = .ok (.new 391, 3) := by decide +kernel
theorem dX11_throwFor_60 : decode cX11_throwFor 60 = .ok (.dup, 1) := by decide +kernel
theorem dX11_throwFor_61 : decode cX11_throwFor 61 = .ok (.ldc_w 393, 3) := by decide +kernel
theorem dX11_throwFor_64 : decode cX11_throwFor 64 = .ok (.invokespecial 395, 3) := by decide +kernel
theorem dX11_throwFor_67 : decode cX11_throwFor 67 = .ok (.athrow, 1) := by decide +kernel
theorem dX11_throwFor_68 : decode cX11_throwFor 68 = .ok (.iload_n 0, 1) := by decide +kernel
theorem dX11_throwFor_69 : decode cX11_throwFor 69 = .ok (.bipush 117, 2) := by decide +kernel
theorem dX11_throwFor_71 : decode cX11_throwFor 71 = .ok (.if_icmp .ne 14, 3) := by decide +kernel
theorem dX11_throwFor_74 : decode cX11_throwFor 74 = .ok (.new 313, 3) := by decide +kernel
theorem dX11_throwFor_77 : decode cX11_throwFor 77 = .ok (.dup, 1) := by decide +kernel
theorem dX11_throwFor_78 : decode cX11_throwFor 78 = .ok (.ldc_w 396, 3) := by decide +kernel
theorem dX11_throwFor_81 : decode cX11_throwFor 81 = .ok (.invokespecial 317, 3) := by decide +kernel
theorem dX11_throwFor_84 : decode cX11_throwFor 84 = .ok (.athrow, 1) := by decide +kernel
theorem dX11_throwFor_85 : decode cX11_throwFor 85 = .ok (.return_, 1) := by decide +kernel
theorem dX11_throwUnlessShip_0 : decode cX11_throwUnlessShip 0 = .ok (.aload_n 0, 1) := by decide +kernel
theorem dX11_throwUnlessShip_1 : decode cX11_throwUnlessShip 1 = .ok (.getfield 12, 3) := by decide +kernel
theorem dX11_throwUnlessShip_4 : decode cX11_throwUnlessShip 4 = .ok (.getfield 80, 3) := by decide +kernel
theorem dX11_throwUnlessShip_7 : decode cX11_throwUnlessShip 7 = .ok (.iload_n 1, 1) := by decide +kernel
theorem dX11_throwUnlessShip_8 : decode cX11_throwUnlessShip 8 = .ok (.invokevirtual 398, 3) := by decide +kernel
theorem dX11_throwUnlessShip_11 : decode cX11_throwUnlessShip 11 = .ok (.ifCond .ne 14, 3) := by decide +kernel
theorem dX11_throwUnlessShip_14 : decode cX11_throwUnlessShip 14 = .ok (.new 364, 3) := by decide +kernel
theorem dX11_throwUnlessShip_17 : decode cX11_throwUnlessShip 17 = .ok (.dup, 1) := by decide +kernel
theorem dX11_throwUnlessShip_18 : decode cX11_throwUnlessShip 18 = .ok (.ldc_w 401, 3) := by decide +kernel
theorem dX11_throwUnlessShip_21 : decode cX11_throwUnlessShip 21 = .ok (.invokespecial 368, 3) := by decide +kernel
theorem dX11_throwUnlessShip_24 : decode cX11_throwUnlessShip 24 = .ok (.athrow, 1) := by decide +kernel
theorem dX11_throwUnlessShip_25 : decode cX11_throwUnlessShip 25 = .ok (.return_, 1) := by decide +kernel
theorem dX11_throwUnlessLamp_0 : decode cX11_throwUnlessLamp 0 = .ok (.aload_n 0, 1) := by decide +kernel
theorem dX11_throwUnlessLamp_1 : decode cX11_throwUnlessLamp 1 = .ok (.getfield 12, 3) := by decide +kernel
theorem dX11_throwUnlessLamp_4 : decode cX11_throwUnlessLamp 4 = .ok (.getfield 94, 3) := by decide +kernel
theorem dX11_throwUnlessLamp_7 : decode cX11_throwUnlessLamp 7 = .ok (.iload_n 1, 1) := by decide +kernel
theorem dX11_throwUnlessLamp_8 : decode cX11_throwUnlessLamp 8 = .ok (.invokevirtual 403, 3) := by decide +kernel
theorem dX11_throwUnlessLamp_11 : decode cX11_throwUnlessLamp 11 = .ok (.ifCond .ne 14, 3) := by decide +kernel
theorem dX11_throwUnlessLamp_14 : decode cX11_throwUnlessLamp 14 = .ok (.new 364, 3) := by decide +kernel
theorem dX11_throwUnlessLamp_17 : decode cX11_throwUnlessLamp 17 = .ok (.dup, 1) := by decide +kernel
theorem dX11_throwUnlessLamp_18 : decode cX11_throwUnlessLamp 18 = .ok (.ldc_w 404, 3) := by decide +kernel
theorem dX11_throwUnlessLamp_21 : decode cX11_throwUnlessLamp 21 = .ok (.invokespecial 368, 3) := by decide +kernel
theorem dX11_throwUnlessLamp_24 : decode cX11_throwUnlessLamp 24 = .ok (.athrow, 1) := by decide +kernel
theorem dX11_throwUnlessLamp_25 : decode cX11_throwUnlessLamp 25 = .ok (.return_, 1) := by decide +kernel
theorem dX11_throwUnlessPosition_0 : decode cX11_throwUnlessPosition 0 = .ok (.iload_n 1, 1) := by decide +kernel
theorem dX11_throwUnlessPosition_1 : decode cX11_throwUnlessPosition 1 = .ok (.ifCond .lt 17, 3) := by decide +kernel
theorem dX11_throwUnlessPosition_4 : decode cX11_throwUnlessPosition 4 = .ok (.iload_n 1, 1) := by decide +kernel
theorem dX11_throwUnlessPosition_5 : decode cX11_throwUnlessPosition 5 = .ok (.aload_n 0, 1) := by decide +kernel
theorem dX11_throwUnlessPosition_6 : decode cX11_throwUnlessPosition 6 = .ok (.getfield 12, 3) := by decide +kernel
theorem dX11_throwUnlessPosition_9 : decode cX11_throwUnlessPosition 9 = .ok (.getfield 121, 3) := by decide +kernel
theorem dX11_throwUnlessPosition_12 : decode cX11_throwUnlessPosition 12 = .ok (.getfield 227, 3) := by decide +kernel
theorem dX11_throwUnlessPosition_15 : decode cX11_throwUnlessPosition 15 = .ok (.if_icmp .lt 14, 3) := by decide +kernel
theorem dX11_throwUnlessPosition_18 : decode cX11_throwUnlessPosition 18 = .ok (.new 391, 3) := by decide +kernel
theorem dX11_throwUnlessPosition_21 : decode cX11_throwUnlessPosition 21 = .ok (.dup, 1) := by decide +kernel
theorem dX11_throwUnlessPosition_22 : decode cX11_throwUnlessPosition 22 = .ok (.ldc_w 406, 3) := by decide +kernel
theorem dX11_throwUnlessPosition_25 : decode cX11_throwUnlessPosition 25 = .ok (.invokespecial 395, 3) := by decide +kernel
theorem dX11_throwUnlessPosition_28 : decode cX11_throwUnlessPosition 28 = .ok (.athrow, 1) := by decide +kernel
theorem dX11_throwUnlessPosition_29 : decode cX11_throwUnlessPosition 29 = .ok (.return_, 1) := by decide +kernel
theorem dX11_throwIfNothing_0 : decode cX11_throwIfNothing 0 = .ok (.iload_n 0, 1) := by decide +kernel
theorem dX11_throwIfNothing_1 : decode cX11_throwIfNothing 1 = .ok (.iconst (-1), 1) := by decide +kernel
theorem dX11_throwIfNothing_2 : decode cX11_throwIfNothing 2 = .ok (.if_icmp .ne 14, 3) := by decide +kernel
theorem dX11_throwIfNothing_5 : decode cX11_throwIfNothing 5 = .ok (.new 391, 3) := by decide +kernel
theorem dX11_throwIfNothing_8 : decode cX11_throwIfNothing 8 = .ok (.dup, 1) := by decide +kernel
theorem dX11_throwIfNothing_9 : decode cX11_throwIfNothing 9 = .ok (.ldc_w 408, 3) := by decide +kernel
theorem dX11_throwIfNothing_12 : decode cX11_throwIfNothing 12 = .ok (.invokespecial 395, 3) := by decide +kernel
theorem dX11_throwIfNothing_15 : decode cX11_throwIfNothing 15 = .ok (.athrow, 1) := by decide +kernel
theorem dX11_throwIfNothing_16 : decode cX11_throwIfNothing 16 = .ok (.return_, 1) := by decide +kernel
end
section
/-! the shape of the heap: cell k holds the numbers g k; c: the capacity of the builder's array -/
def o_F : List ((Nat → Int) → Int → o_C) := [
  fun f c => .inr (0, [.ref 1, .ref 15, .ref 29, .int (o_I (f 3)), .ref 43, .ref 157, .ref 159, .ref 163, .ref 190, .int (o_I (f 9)), .int (o_I (f 10)), .int (o_I (f 11))]),
  fun f c => .inr (1, [.ref 2, .ref 6, .ref 12, .int (o_I (f 3)), .int (o_I (f 4)), .int (o_I (f 5)), .int (o_I (f 6))]),
  fun f c => .inr (2, [.int (o_I (f 0)), .ref 3, .ref 4, .ref 5]),
  fun f c => .inl (0, 6, .inl (fun j => o_I (f j))),
  fun f c => .inl (0, 6, .inl (fun j => o_I (f j))),
  fun f c => .inl (0, 6, .inl (fun j => o_I (f j))),
  fun f c => .inr (3, [.int (o_I (f 0)), .ref 7, .ref 8, .ref 9, .ref 10, .ref 11]),
  fun f c => .inl (0, 8, .inl (fun j => o_I (f j))),
  fun f c => .inl (0, 8, .inl (fun j => o_I (f j))),
  fun f c => .inl (0, 8, .inl (fun j => o_I (f j))),
  fun f c => .inl (0, 8, .inl (fun j => o_I (f j))),
  fun f c => .inl (1, 8, .inl (fun j => o_I (f j))),
  fun f c => .inr (4, [.int (o_I (f 0)), .ref 13, .ref 14]),
  fun f c => .inl (0, 8, .inl (fun j => o_I (f j))),
  fun f c => .inl (0, 8, .inl (fun j => o_I (f j))),
  fun f c => .inr (1, [.ref 16, .ref 20, .ref 26, .int (o_I (f 3)), .int (o_I (f 4)), .int (o_I (f 5)), .int (o_I (f 6))]),
  fun f c => .inr (2, [.int (o_I (f 0)), .ref 17, .ref 18, .ref 19]),
  fun f c => .inl (0, 6, .inl (fun j => o_I (f j))),
  fun f c => .inl (0, 6, .inl (fun j => o_I (f j))),
  fun f c => .inl (0, 6, .inl (fun j => o_I (f j))),
  fun f c => .inr (3, [.int (o_I (f 0)), .ref 21, .ref 22, .ref 23, .ref 24, .ref 25]),
  fun f c => .inl (0, 8, .inl (fun j => o_I (f j))),
  fun f c => .inl (0, 8, .inl (fun j => o_I (f j))),
  fun f c => .inl (0, 8, .inl (fun j => o_I (f j))),
  fun f c => .inl (0, 8, .inl (fun j => o_I (f j))),
  fun f c => .inl (1, 8, .inl (fun j => o_I (f j))),
  fun f c => .inr (4, [.int (o_I (f 0)), .ref 27, .ref 28]),
  fun f c => .inl (0, 8, .inl (fun j => o_I (f j))),
  fun f c => .inl (0, 8, .inl (fun j => o_I (f j))),
  fun f c => .inr (1, [.ref 30, .ref 34, .ref 40, .int (o_I (f 3)), .int (o_I (f 4)), .int (o_I (f 5)), .int (o_I (f 6))]),
  fun f c => .inr (2, [.int (o_I (f 0)), .ref 31, .ref 32, .ref 33]),
  fun f c => .inl (0, 6, .inl (fun j => o_I (f j))),
  fun f c => .inl (0, 6, .inl (fun j => o_I (f j))),
  fun f c => .inl (0, 6, .inl (fun j => o_I (f j))),
  fun f c => .inr (3, [.int (o_I (f 0)), .ref 35, .ref 36, .ref 37, .ref 38, .ref 39]),
  fun f c => .inl (0, 8, .inl (fun j => o_I (f j))),
  fun f c => .inl (0, 8, .inl (fun j => o_I (f j))),
  fun f c => .inl (0, 8, .inl (fun j => o_I (f j))),
  fun f c => .inl (0, 8, .inl (fun j => o_I (f j))),
  fun f c => .inl (1, 8, .inl (fun j => o_I (f j))),
  fun f c => .inr (4, [.int (o_I (f 0)), .ref 41, .ref 42]),
  fun f c => .inl (0, 8, .inl (fun j => o_I (f j))),
  fun f c => .inl (0, 8, .inl (fun j => o_I (f j))),
  fun f c => .inr (5, [.ref 44, .int (o_I (f 1)), .int (o_I (f 2))]),
  fun f c => .inl (7, 8, .inr (.inr (.inr (.inr (fun j => some (45 + 14 * j)))))),
  fun f c => .inr (1, [.ref 46, .ref 50, .ref 56, .int (o_I (f 3)), .int (o_I (f 4)), .int (o_I (f 5)), .int (o_I (f 6))]),
  fun f c => .inr (2, [.int (o_I (f 0)), .ref 47, .ref 48, .ref 49]),
  fun f c => .inl (0, 6, .inl (fun j => o_I (f j))),
  fun f c => .inl (0, 6, .inl (fun j => o_I (f j))),
  fun f c => .inl (0, 6, .inl (fun j => o_I (f j))),
  fun f c => .inr (3, [.int (o_I (f 0)), .ref 51, .ref 52, .ref 53, .ref 54, .ref 55]),
  fun f c => .inl (0, 8, .inl (fun j => o_I (f j))),
  fun f c => .inl (0, 8, .inl (fun j => o_I (f j))),
  fun f c => .inl (0, 8, .inl (fun j => o_I (f j))),
  fun f c => .inl (0, 8, .inl (fun j => o_I (f j))),
  fun f c => .inl (1, 8, .inl (fun j => o_I (f j))),
  fun f c => .inr (4, [.int (o_I (f 0)), .ref 57, .ref 58]),
  fun f c => .inl (0, 8, .inl (fun j => o_I (f j))),
  fun f c => .inl (0, 8, .inl (fun j => o_I (f j))),
  fun f c => .inr (1, [.ref 60, .ref 64, .ref 70, .int (o_I (f 3)), .int (o_I (f 4)), .int (o_I (f 5)), .int (o_I (f 6))]),
  fun f c => .inr (2, [.int (o_I (f 0)), .ref 61, .ref 62, .ref 63]),
  fun f c => .inl (0, 6, .inl (fun j => o_I (f j))),
  fun f c => .inl (0, 6, .inl (fun j => o_I (f j))),
  fun f c => .inl (0, 6, .inl (fun j => o_I (f j))),
  fun f c => .inr (3, [.int (o_I (f 0)), .ref 65, .ref 66, .ref 67, .ref 68, .ref 69]),
  fun f c => .inl (0, 8, .inl (fun j => o_I (f j))),
  fun f c => .inl (0, 8, .inl (fun j => o_I (f j))),
  fun f c => .inl (0, 8, .inl (fun j => o_I (f j))),
  fun f c => .inl (0, 8, .inl (fun j => o_I (f j))),
  fun f c => .inl (1, 8, .inl (fun j => o_I (f j))),
  fun f c => .inr (4, [.int (o_I (f 0)), .ref 71, .ref 72]),
  fun f c => .inl (0, 8, .inl (fun j => o_I (f j))),
  fun f c => .inl (0, 8, .inl (fun j => o_I (f j))),
  fun f c => .inr (1, [.ref 74, .ref 78, .ref 84, .int (o_I (f 3)), .int (o_I (f 4)), .int (o_I (f 5)), .int (o_I (f 6))]),
  fun f c => .inr (2, [.int (o_I (f 0)), .ref 75, .ref 76, .ref 77]),
  fun f c => .inl (0, 6, .inl (fun j => o_I (f j))),
  fun f c => .inl (0, 6, .inl (fun j => o_I (f j))),
  fun f c => .inl (0, 6, .inl (fun j => o_I (f j))),
  fun f c => .inr (3, [.int (o_I (f 0)), .ref 79, .ref 80, .ref 81, .ref 82, .ref 83]),
  fun f c => .inl (0, 8, .inl (fun j => o_I (f j))),
  fun f c => .inl (0, 8, .inl (fun j => o_I (f j))),
  fun f c => .inl (0, 8, .inl (fun j => o_I (f j))),
  fun f c => .inl (0, 8, .inl (fun j => o_I (f j))),
  fun f c => .inl (1, 8, .inl (fun j => o_I (f j))),
  fun f c => .inr (4, [.int (o_I (f 0)), .ref 85, .ref 86]),
  fun f c => .inl (0, 8, .inl (fun j => o_I (f j))),
  fun f c => .inl (0, 8, .inl (fun j => o_I (f j))),
  fun f c => .inr (1, [.ref 88, .ref 92, .ref 98, .int (o_I (f 3)), .int (o_I (f 4)), .int (o_I (f 5)), .int (o_I (f 6))]),
  fun f c => .inr (2, [.int (o_I (f 0)), .ref 89, .ref 90, .ref 91]),
  fun f c => .inl (0, 6, .inl (fun j => o_I (f j))),
  fun f c => .inl (0, 6, .inl (fun j => o_I (f j))),
  fun f c => .inl (0, 6, .inl (fun j => o_I (f j))),
  fun f c => .inr (3, [.int (o_I (f 0)), .ref 93, .ref 94, .ref 95, .ref 96, .ref 97]),
  fun f c => .inl (0, 8, .inl (fun j => o_I (f j))),
  fun f c => .inl (0, 8, .inl (fun j => o_I (f j))),
  fun f c => .inl (0, 8, .inl (fun j => o_I (f j))),
  fun f c => .inl (0, 8, .inl (fun j => o_I (f j))),
  fun f c => .inl (1, 8, .inl (fun j => o_I (f j))),
  fun f c => .inr (4, [.int (o_I (f 0)), .ref 99, .ref 100]),
  fun f c => .inl (0, 8, .inl (fun j => o_I (f j))),
  fun f c => .inl (0, 8, .inl (fun j => o_I (f j))),
  fun f c => .inr (1, [.ref 102, .ref 106, .ref 112, .int (o_I (f 3)), .int (o_I (f 4)), .int (o_I (f 5)), .int (o_I (f 6))]),
  fun f c => .inr (2, [.int (o_I (f 0)), .ref 103, .ref 104, .ref 105]),
  fun f c => .inl (0, 6, .inl (fun j => o_I (f j))),
  fun f c => .inl (0, 6, .inl (fun j => o_I (f j))),
  fun f c => .inl (0, 6, .inl (fun j => o_I (f j))),
  fun f c => .inr (3, [.int (o_I (f 0)), .ref 107, .ref 108, .ref 109, .ref 110, .ref 111]),
  fun f c => .inl (0, 8, .inl (fun j => o_I (f j))),
  fun f c => .inl (0, 8, .inl (fun j => o_I (f j))),
  fun f c => .inl (0, 8, .inl (fun j => o_I (f j))),
  fun f c => .inl (0, 8, .inl (fun j => o_I (f j))),
  fun f c => .inl (1, 8, .inl (fun j => o_I (f j))),
  fun f c => .inr (4, [.int (o_I (f 0)), .ref 113, .ref 114]),
  fun f c => .inl (0, 8, .inl (fun j => o_I (f j))),
  fun f c => .inl (0, 8, .inl (fun j => o_I (f j))),
  fun f c => .inr (1, [.ref 116, .ref 120, .ref 126, .int (o_I (f 3)), .int (o_I (f 4)), .int (o_I (f 5)), .int (o_I (f 6))]),
  fun f c => .inr (2, [.int (o_I (f 0)), .ref 117, .ref 118, .ref 119]),
  fun f c => .inl (0, 6, .inl (fun j => o_I (f j))),
  fun f c => .inl (0, 6, .inl (fun j => o_I (f j))),
  fun f c => .inl (0, 6, .inl (fun j => o_I (f j))),
  fun f c => .inr (3, [.int (o_I (f 0)), .ref 121, .ref 122, .ref 123, .ref 124, .ref 125]),
  fun f c => .inl (0, 8, .inl (fun j => o_I (f j))),
  fun f c => .inl (0, 8, .inl (fun j => o_I (f j))),
  fun f c => .inl (0, 8, .inl (fun j => o_I (f j))),
  fun f c => .inl (0, 8, .inl (fun j => o_I (f j))),
  fun f c => .inl (1, 8, .inl (fun j => o_I (f j))),
  fun f c => .inr (4, [.int (o_I (f 0)), .ref 127, .ref 128]),
  fun f c => .inl (0, 8, .inl (fun j => o_I (f j))),
  fun f c => .inl (0, 8, .inl (fun j => o_I (f j))),
  fun f c => .inr (1, [.ref 130, .ref 134, .ref 140, .int (o_I (f 3)), .int (o_I (f 4)), .int (o_I (f 5)), .int (o_I (f 6))]),
  fun f c => .inr (2, [.int (o_I (f 0)), .ref 131, .ref 132, .ref 133]),
  fun f c => .inl (0, 6, .inl (fun j => o_I (f j))),
  fun f c => .inl (0, 6, .inl (fun j => o_I (f j))),
  fun f c => .inl (0, 6, .inl (fun j => o_I (f j))),
  fun f c => .inr (3, [.int (o_I (f 0)), .ref 135, .ref 136, .ref 137, .ref 138, .ref 139]),
  fun f c => .inl (0, 8, .inl (fun j => o_I (f j))),
  fun f c => .inl (0, 8, .inl (fun j => o_I (f j))),
  fun f c => .inl (0, 8, .inl (fun j => o_I (f j))),
  fun f c => .inl (0, 8, .inl (fun j => o_I (f j))),
  fun f c => .inl (1, 8, .inl (fun j => o_I (f j))),
  fun f c => .inr (4, [.int (o_I (f 0)), .ref 141, .ref 142]),
  fun f c => .inl (0, 8, .inl (fun j => o_I (f j))),
  fun f c => .inl (0, 8, .inl (fun j => o_I (f j))),
  fun f c => .inr (1, [.ref 144, .ref 148, .ref 154, .int (o_I (f 3)), .int (o_I (f 4)), .int (o_I (f 5)), .int (o_I (f 6))]),
  fun f c => .inr (2, [.int (o_I (f 0)), .ref 145, .ref 146, .ref 147]),
  fun f c => .inl (0, 6, .inl (fun j => o_I (f j))),
  fun f c => .inl (0, 6, .inl (fun j => o_I (f j))),
  fun f c => .inl (0, 6, .inl (fun j => o_I (f j))),
  fun f c => .inr (3, [.int (o_I (f 0)), .ref 149, .ref 150, .ref 151, .ref 152, .ref 153]),
  fun f c => .inl (0, 8, .inl (fun j => o_I (f j))),
  fun f c => .inl (0, 8, .inl (fun j => o_I (f j))),
  fun f c => .inl (0, 8, .inl (fun j => o_I (f j))),
  fun f c => .inl (0, 8, .inl (fun j => o_I (f j))),
  fun f c => .inl (1, 8, .inl (fun j => o_I (f j))),
  fun f c => .inr (4, [.int (o_I (f 0)), .ref 155, .ref 156]),
  fun f c => .inl (0, 8, .inl (fun j => o_I (f j))),
  fun f c => .inl (0, 8, .inl (fun j => o_I (f j))),
  fun f c => .inr (6, [.ref 158]),
  fun f c => .inl (0, 25, .inl (fun j => o_I (f j))),
  fun f c => .inr (7, [.ref 160, .ref 161, .ref 162, .int (o_I (f 3))]),
  fun f c => .inl (0, 6, .inl (fun j => o_I (f j))),
  fun f c => .inl (0, 6, .inl (fun j => o_I (f j))),
  fun f c => .inl (1, 6, .inl (fun j => o_I (f j))),
  fun f c => .inr (8, [.ref 164, .ref 165, .int (o_I (f 2)), .int (o_I (f 3)), .int (o_I (f 4))]),
  fun f c => .inl (2, 60, .inl (fun j => o_I (f j))),
  fun f c => .inl (6, 12, .inr (.inr (.inr (.inr (fun j => some (166 + 2 * j)))))),
  fun f c => .inr (9, [.ref (1000000 + (f 0).toNat), .ref 167]),
  fun f c => .inl (0, 3, .inl (fun j => o_I (f j))),
  fun f c => .inr (9, [.ref (1000000 + (f 0).toNat), .ref 169]),
  fun f c => .inl (0, 3, .inl (fun j => o_I (f j))),
  fun f c => .inr (9, [.ref (1000000 + (f 0).toNat), .ref 171]),
  fun f c => .inl (0, 3, .inl (fun j => o_I (f j))),
  fun f c => .inr (9, [.ref (1000000 + (f 0).toNat), .ref 173]),
  fun f c => .inl (0, 3, .inl (fun j => o_I (f j))),
  fun f c => .inr (9, [.ref (1000000 + (f 0).toNat), .ref 175]),
  fun f c => .inl (0, 3, .inl (fun j => o_I (f j))),
  fun f c => .inr (9, [.ref (1000000 + (f 0).toNat), .ref 177]),
  fun f c => .inl (0, 3, .inl (fun j => o_I (f j))),
  fun f c => .inr (9, [.ref (1000000 + (f 0).toNat), .ref 179]),
  fun f c => .inl (0, 3, .inl (fun j => o_I (f j))),
  fun f c => .inr (9, [.ref (1000000 + (f 0).toNat), .ref 181]),
  fun f c => .inl (0, 3, .inl (fun j => o_I (f j))),
  fun f c => .inr (9, [.ref (1000000 + (f 0).toNat), .ref 183]),
  fun f c => .inl (0, 3, .inl (fun j => o_I (f j))),
  fun f c => .inr (9, [.ref (1000000 + (f 0).toNat), .ref 185]),
  fun f c => .inl (0, 3, .inl (fun j => o_I (f j))),
  fun f c => .inr (9, [.ref (1000000 + (f 0).toNat), .ref 187]),
  fun f c => .inl (0, 3, .inl (fun j => o_I (f j))),
  fun f c => .inr (9, [.ref (1000000 + (f 0).toNat), .ref 189]),
  fun f c => .inl (0, 3, .inl (fun j => o_I (f j))),
  fun f c => .inr (11, [.ref 191, .int (o_I (f 1)), .int (o_I (f 2)), .int (o_I (f 3))]),
  fun f c => .inl (3, c.toNat, .inl (fun j => o_I (f j))),
  fun f c => .inr (10, [.ref 193, .ref 194, .ref 195, .ref 196, .int (o_I (f 4)), .ref 197, .int (o_I (f 6)), .int (o_I (f 7)), .ref 198, .int (o_I (f 9)), .ref 199, .int (o_I (f 11)), .int (o_I (f 12)), .int (o_I (f 13)), .int (o_I (f 14)), .int (o_I (f 15)), .int (o_I (f 16)), .ref 200, .int (o_I (f 18))]),
  fun f c => .inl (0, 81, .inl (fun j => o_I (f j))),
  fun f c => .inl (0, 81, .inl (fun j => o_I (f j))),
  fun f c => .inl (0, 81, .inl (fun j => o_I (f j))),
  fun f c => .inl (0, 81, .inl (fun j => o_I (f j))),
  fun f c => .inl (0, 648, .inl (fun j => o_I (f j))),
  fun f c => .inl (2, 120, .inl (fun j => o_I (f j))),
  fun f c => .inl (2, 60, .inl (fun j => o_I (f j))),
  fun f c => .inl (0, 240, .inl (fun j => o_I (f j))),
  fun f c => .inl (4, 1, .inr (.inl (fun j => Int64.ofInt (f j)))),
  fun f c => .inl (5, 1, .inr (.inr (.inr (.inl (fun j => UInt64.ofNat (f j).toNat)))))]
def o_mem (g : Nat → Nat → Int) (k : Nat) : o_C := (o_F.getD k (fun _ _ => .inr (0, []))) (g k) (g 190 9)
abbrev o_N : Nat := 203
def o_w (g : Nat → Nat → Int) (k : Nat) (f : Nat → Int) : Nat → Nat → Int := fun a => if a = k then f else g a
theorem o_w_s (g : Nat → Nat → Int) (k : Nat) (f : Nat → Int) : o_w g k f k = f := by simp [o_w]
theorem o_w_n (g : Nat → Nat → Int) {k j : Nat} (f : Nat → Int) (h : j ≠ k) : o_w g k f j = g j := by simp [o_w, h]
theorem o_w_w (g : Nat → Nat → Int) (k : Nat) (f f' : Nat → Int) : o_w (o_w g k f) k f' = o_w g k f' := by
  funext j
  unfold o_w
  split <;> rfl
theorem o_w_id (g : Nat → Nat → Int) (k : Nat) : o_w g k (g k) = g := by
  funext j
  unfold o_w
  split
  · next e => rw [e]
  · rfl
/-- a store, in the shape -/
theorem o_mw {g : Nat → Nat → Int} {k : Nat} {f : Nat → Int} {c : o_C} (hc : c = (o_F.getD k (fun _ _ => .inr (0, []))) f (g 190 9)) (h9 : (o_w g k f) 190 9 = g 190 9) : o_up (o_mem g) k c = o_mem (o_w g k f) := by
  funext j
  unfold o_up o_mem
  rw [h9]
  by_cases e : j = k
  · subst e
    rw [if_pos rfl, o_w_s]
    exact hc
  · rw [if_neg e, o_w_n g f e]
theorem o_m0 (g : Nat → Nat → Int) : o_mem g 0 = .inr (0, [.ref 1, .ref 15, .ref 29, .int (o_I (g 0 3)), .ref 43, .ref 157, .ref 159, .ref 163, .ref 190, .int (o_I (g 0 9)), .int (o_I (g 0 10)), .int (o_I (g 0 11))]) := rfl
theorem o_m1 (g : Nat → Nat → Int) : o_mem g 1 = .inr (1, [.ref 2, .ref 6, .ref 12, .int (o_I (g 1 3)), .int (o_I (g 1 4)), .int (o_I (g 1 5)), .int (o_I (g 1 6))]) := rfl
theorem o_m2 (g : Nat → Nat → Int) : o_mem g 2 = .inr (2, [.int (o_I (g 2 0)), .ref 3, .ref 4, .ref 5]) := rfl
theorem o_m3 (g : Nat → Nat → Int) : o_mem g 3 = .inl (0, 6, .inl (fun j => o_I (g 3 j))) := rfl
theorem o_m4 (g : Nat → Nat → Int) : o_mem g 4 = .inl (0, 6, .inl (fun j => o_I (g 4 j))) := rfl
theorem o_m5 (g : Nat → Nat → Int) : o_mem g 5 = .inl (0, 6, .inl (fun j => o_I (g 5 j))) := rfl
theorem o_m6 (g : Nat → Nat → Int) : o_mem g 6 = .inr (3, [.int (o_I (g 6 0)), .ref 7, .ref 8, .ref 9, .ref 10, .ref 11]) := rfl
theorem o_m7 (g : Nat → Nat → Int) : o_mem g 7 = .inl (0, 8, .inl (fun j => o_I (g 7 j))) := rfl
theorem o_m8 (g : Nat → Nat → Int) : o_mem g 8 = .inl (0, 8, .inl (fun j => o_I (g 8 j))) := rfl
theorem o_m9 (g : Nat → Nat → Int) : o_mem g 9 = .inl (0, 8, .inl (fun j => o_I (g 9 j))) := rfl
theorem o_m10 (g : Nat → Nat → Int) : o_mem g 10 = .inl (0, 8, .inl (fun j => o_I (g 10 j))) := rfl
theorem o_m11 (g : Nat → Nat → Int) : o_mem g 11 = .inl (1, 8, .inl (fun j => o_I (g 11 j))) := rfl
theorem o_m12 (g : Nat → Nat → Int) : o_mem g 12 = .inr (4, [.int (o_I (g 12 0)), .ref 13, .ref 14]) := rfl
theorem o_m13 (g : Nat → Nat → Int) : o_mem g 13 = .inl (0, 8, .inl (fun j => o_I (g 13 j))) := rfl
theorem o_m14 (g : Nat → Nat → Int) : o_mem g 14 = .inl (0, 8, .inl (fun j => o_I (g 14 j))) := rfl
theorem o_m15 (g : Nat → Nat → Int) : o_mem g 15 = .inr (1, [.ref 16, .ref 20, .ref 26, .int (o_I (g 15 3)), .int (o_I (g 15 4)), .int (o_I (g 15 5)), .int (o_I (g 15 6))]) := rfl
theorem o_m16 (g : Nat → Nat → Int) : o_mem g 16 = .inr (2, [.int (o_I (g 16 0)), .ref 17, .ref 18, .ref 19]) := rfl
theorem o_m17 (g : Nat → Nat → Int) : o_mem g 17 = .inl (0, 6, .inl (fun j => o_I (g 17 j))) := rfl
theorem o_m18 (g : Nat → Nat → Int) : o_mem g 18 = .inl (0, 6, .inl (fun j => o_I (g 18 j))) := rfl
theorem o_m19 (g : Nat → Nat → Int) : o_mem g 19 = .inl (0, 6, .inl (fun j => o_I (g 19 j))) := rfl
theorem o_m20 (g : Nat → Nat → Int) : o_mem g 20 = .inr (3, [.int (o_I (g 20 0)), .ref 21, .ref 22, .ref 23, .ref 24, .ref 25]) := rfl
theorem o_m21 (g : Nat → Nat → Int) : o_mem g 21 = .inl (0, 8, .inl (fun j => o_I (g 21 j))) := rfl
theorem o_m22 (g : Nat → Nat → Int) : o_mem g 22 = .inl (0, 8, .inl (fun j => o_I (g 22 j))) := rfl
theorem o_m23 (g : Nat → Nat → Int) : o_mem g 23 = .inl (0, 8, .inl (fun j => o_I (g 23 j))) := rfl
theorem o_m24 (g : Nat → Nat → Int) : o_mem g 24 = .inl (0, 8, .inl (fun j => o_I (g 24 j))) := rfl
theorem o_m25 (g : Nat → Nat → Int) : o_mem g 25 = .inl (1, 8, .inl (fun j => o_I (g 25 j))) := rfl
theorem o_m26 (g : Nat → Nat → Int) : o_mem g 26 = .inr (4, [.int (o_I (g 26 0)), .ref 27, .ref 28]) := rfl
theorem o_m27 (g : Nat → Nat → Int) : o_mem g 27 = .inl (0, 8, .inl (fun j => o_I (g 27 j))) := rfl
theorem o_m28 (g : Nat → Nat → Int) : o_mem g 28 = .inl (0, 8, .inl (fun j => o_I (g 28 j))) := rfl
theorem o_m29 (g : Nat → Nat → Int) : o_mem g 29 = .inr (1, [.ref 30, .ref 34, .ref 40, .int (o_I (g 29 3)), .int (o_I (g 29 4)), .int (o_I (g 29 5)), .int (o_I (g 29 6))]) := rfl
theorem o_m30 (g : Nat → Nat → Int) : o_mem g 30 = .inr (2, [.int (o_I (g 30 0)), .ref 31, .ref 32, .ref 33]) := rfl
theorem o_m31 (g : Nat → Nat → Int) : o_mem g 31 = .inl (0, 6, .inl (fun j => o_I (g 31 j))) := rfl
theorem o_m32 (g : Nat → Nat → Int) : o_mem g 32 = .inl (0, 6, .inl (fun j => o_I (g 32 j))) := rfl
theorem o_m33 (g : Nat → Nat → Int) : o_mem g 33 = .inl (0, 6, .inl (fun j => o_I (g 33 j))) := rfl
theorem o_m34 (g : Nat → Nat → Int) : o_mem g 34 = .inr (3, [.int (o_I (g 34 0)), .ref 35, .ref 36, .ref 37, .ref 38, .ref 39]) := rfl
theorem o_m35 (g : Nat → Nat → Int) : o_mem g 35 = .inl (0, 8, .inl (fun j => o_I (g 35 j))) := rfl
theorem o_m36 (g : Nat → Nat → Int) : o_mem g 36 = .inl (0, 8, .inl (fun j => o_I (g 36 j))) := rfl
theorem o_m37 (g : Nat → Nat → Int) : o_mem g 37 = .inl (0, 8, .inl (fun j => o_I (g 37 j))) := rfl
theorem o_m38 (g : Nat → Nat → Int) : o_mem g 38 = .inl (0, 8, .inl (fun j => o_I (g 38 j))) := rfl
theorem o_m39 (g : Nat → Nat → Int) : o_mem g 39 = .inl (1, 8, .inl (fun j => o_I (g 39 j))) := rfl
theorem o_m40 (g : Nat → Nat → Int) : o_mem g 40 = .inr (4, [.int (o_I (g 40 0)), .ref 41, .ref 42]) := rfl
theorem o_m41 (g : Nat → Nat → Int) : o_mem g 41 = .inl (0, 8, .inl (fun j => o_I (g 41 j))) := rfl
theorem o_m42 (g : Nat → Nat → Int) : o_mem g 42 = .inl (0, 8, .inl (fun j => o_I (g 42 j))) := rfl
theorem o_m43 (g : Nat → Nat → Int) : o_mem g 43 = .inr (5, [.ref 44, .int (o_I (g 43 1)), .int (o_I (g 43 2))]) := rfl
theorem o_m44 (g : Nat → Nat → Int) : o_mem g 44 = .inl (7, 8, .inr (.inr (.inr (.inr (fun j => some (45 + 14 * j)))))) := rfl
theorem o_m45 (g : Nat → Nat → Int) : o_mem g 45 = .inr (1, [.ref 46, .ref 50, .ref 56, .int (o_I (g 45 3)), .int (o_I (g 45 4)), .int (o_I (g 45 5)), .int (o_I (g 45 6))]) := rfl
theorem o_m46 (g : Nat → Nat → Int) : o_mem g 46 = .inr (2, [.int (o_I (g 46 0)), .ref 47, .ref 48, .ref 49]) := rfl
theorem o_m47 (g : Nat → Nat → Int) : o_mem g 47 = .inl (0, 6, .inl (fun j => o_I (g 47 j))) := rfl
theorem o_m48 (g : Nat → Nat → Int) : o_mem g 48 = .inl (0, 6, .inl (fun j => o_I (g 48 j))) := rfl
theorem o_m49 (g : Nat → Nat → Int) : o_mem g 49 = .inl (0, 6, .inl (fun j => o_I (g 49 j))) := rfl
theorem o_m50 (g : Nat → Nat → Int) : o_mem g 50 = .inr (3, [.int (o_I (g 50 0)), .ref 51, .ref 52, .ref 53, .ref 54, .ref 55]) := rfl
theorem o_m51 (g : Nat → Nat → Int) : o_mem g 51 = .inl (0, 8, .inl (fun j => o_I (g 51 j))) := rfl
theorem o_m52 (g : Nat → Nat → Int) : o_mem g 52 = .inl (0, 8, .inl (fun j => o_I (g 52 j))) := rfl
theorem o_m53 (g : Nat → Nat → Int) : o_mem g 53 = .inl (0, 8, .inl (fun j => o_I (g 53 j))) := rfl
theorem o_m54 (g : Nat → Nat → Int) : o_mem g 54 = .inl (0, 8, .inl (fun j => o_I (g 54 j))) := rfl
theorem o_m55 (g : Nat → Nat → Int) : o_mem g 55 = .inl (1, 8, .inl (fun j => o_I (g 55 j))) := rfl
theorem o_m56 (g : Nat → Nat → Int) : o_mem g 56 = .inr (4, [.int (o_I (g 56 0)), .ref 57, .ref 58]) := rfl
theorem o_m57 (g : Nat → Nat → Int) : o_mem g 57 = .inl (0, 8, .inl (fun j => o_I (g 57 j))) := rfl
theorem o_m58 (g : Nat → Nat → Int) : o_mem g 58 = .inl (0, 8, .inl (fun j => o_I (g 58 j))) := rfl
theorem o_m59 (g : Nat → Nat → Int) : o_mem g 59 = .inr (1, [.ref 60, .ref 64, .ref 70, .int (o_I (g 59 3)), .int (o_I (g 59 4)), .int (o_I (g 59 5)), .int (o_I (g 59 6))]) := rfl
theorem o_m60 (g : Nat → Nat → Int) : o_mem g 60 = .inr (2, [.int (o_I (g 60 0)), .ref 61, .ref 62, .ref 63]) := rfl
theorem o_m61 (g : Nat → Nat → Int) : o_mem g 61 = .inl (0, 6, .inl (fun j => o_I (g 61 j))) := rfl
theorem o_m62 (g : Nat → Nat → Int) : o_mem g 62 = .inl (0, 6, .inl (fun j => o_I (g 62 j))) := rfl
theorem o_m63 (g : Nat → Nat → Int) : o_mem g 63 = .inl (0, 6, .inl (fun j => o_I (g 63 j))) := rfl
theorem o_m64 (g : Nat → Nat → Int) : o_mem g 64 = .inr (3, [.int (o_I (g 64 0)), .ref 65, .ref 66, .ref 67, .ref 68, .ref 69]) := rfl
theorem o_m65 (g : Nat → Nat → Int) : o_mem g 65 = .inl (0, 8, .inl (fun j => o_I (g 65 j))) := rfl
theorem o_m66 (g : Nat → Nat → Int) : o_mem g 66 = .inl (0, 8, .inl (fun j => o_I (g 66 j))) := rfl
theorem o_m67 (g : Nat → Nat → Int) : o_mem g 67 = .inl (0, 8, .inl (fun j => o_I (g 67 j))) := rfl
theorem o_m68 (g : Nat → Nat → Int) : o_mem g 68 = .inl (0, 8, .inl (fun j => o_I (g 68 j))) := rfl
theorem o_m69 (g : Nat → Nat → Int) : o_mem g 69 = .inl (1, 8, .inl (fun j => o_I (g 69 j))) := rfl
theorem o_m70 (g : Nat → Nat → Int) : o_mem g 70 = .inr (4, [.int (o_I (g 70 0)), .ref 71, .ref 72]) := rfl
theorem o_m71 (g : Nat → Nat → Int) : o_mem g 71 = .inl (0, 8, .inl (fun j => o_I (g 71 j))) := rfl
theorem o_m72 (g : Nat → Nat → Int) : o_mem g 72 = .inl (0, 8, .inl (fun j => o_I (g 72 j))) := rfl
theorem o_m73 (g : Nat → Nat → Int) : o_mem g 73 = .inr (1, [.ref 74, .ref 78, .ref 84, .int (o_I (g 73 3)), .int (o_I (g 73 4)), .int (o_I (g 73 5)), .int (o_I (g 73 6))]) := rfl
theorem o_m74 (g : Nat → Nat → Int) : o_mem g 74 = .inr (2, [.int (o_I (g 74 0)), .ref 75, .ref 76, .ref 77]) := rfl
theorem o_m75 (g : Nat → Nat → Int) : o_mem g 75 = .inl (0, 6, .inl (fun j => o_I (g 75 j))) := rfl
theorem o_m76 (g : Nat → Nat → Int) : o_mem g 76 = .inl (0, 6, .inl (fun j => o_I (g 76 j))) := rfl
theorem o_m77 (g : Nat → Nat → Int) : o_mem g 77 = .inl (0, 6, .inl (fun j => o_I (g 77 j))) := rfl
theorem o_m78 (g : Nat → Nat → Int) : o_mem g 78 = .inr (3, [.int (o_I (g 78 0)), .ref 79, .ref 80, .ref 81, .ref 82, .ref 83]) := rfl
theorem o_m79 (g : Nat → Nat → Int) : o_mem g 79 = .inl (0, 8, .inl (fun j => o_I (g 79 j))) := rfl
theorem o_m80 (g : Nat → Nat → Int) : o_mem g 80 = .inl (0, 8, .inl (fun j => o_I (g 80 j))) := rfl
theorem o_m81 (g : Nat → Nat → Int) : o_mem g 81 = .inl (0, 8, .inl (fun j => o_I (g 81 j))) := rfl
theorem o_m82 (g : Nat → Nat → Int) : o_mem g 82 = .inl (0, 8, .inl (fun j => o_I (g 82 j))) := rfl
theorem o_m83 (g : Nat → Nat → Int) : o_mem g 83 = .inl (1, 8, .inl (fun j => o_I (g 83 j))) := rfl
theorem o_m84 (g : Nat → Nat → Int) : o_mem g 84 = .inr (4, [.int (o_I (g 84 0)), .ref 85, .ref 86]) := rfl
theorem o_m85 (g : Nat → Nat → Int) : o_mem g 85 = .inl (0, 8, .inl (fun j => o_I (g 85 j))) := rfl
theorem o_m86 (g : Nat → Nat → Int) : o_mem g 86 = .inl (0, 8, .inl (fun j => o_I (g 86 j))) := rfl
theorem o_m87 (g : Nat → Nat → Int) : o_mem g 87 = .inr (1, [.ref 88, .ref 92, .ref 98, .int (o_I (g 87 3)), .int (o_I (g 87 4)), .int (o_I (g 87 5)), .int (o_I (g 87 6))]) := rfl
theorem o_m88 (g : Nat → Nat → Int) : o_mem g 88 = .inr (2, [.int (o_I (g 88 0)), .ref 89, .ref 90, .ref 91]) := rfl
theorem o_m89 (g : Nat → Nat → Int) : o_mem g 89 = .inl (0, 6, .inl (fun j => o_I (g 89 j))) := rfl
theorem o_m90 (g : Nat → Nat → Int) : o_mem g 90 = .inl (0, 6, .inl (fun j => o_I (g 90 j))) := rfl
theorem o_m91 (g : Nat → Nat → Int) : o_mem g 91 = .inl (0, 6, .inl (fun j => o_I (g 91 j))) := rfl
theorem o_m92 (g : Nat → Nat → Int) : o_mem g 92 = .inr (3, [.int (o_I (g 92 0)), .ref 93, .ref 94, .ref 95, .ref 96, .ref 97]) := rfl
theorem o_m93 (g : Nat → Nat → Int) : o_mem g 93 = .inl (0, 8, .inl (fun j => o_I (g 93 j))) := rfl
theorem o_m94 (g : Nat → Nat → Int) : o_mem g 94 = .inl (0, 8, .inl (fun j => o_I (g 94 j))) := rfl
theorem o_m95 (g : Nat → Nat → Int) : o_mem g 95 = .inl (0, 8, .inl (fun j => o_I (g 95 j))) := rfl
theorem o_m96 (g : Nat → Nat → Int) : o_mem g 96 = .inl (0, 8, .inl (fun j => o_I (g 96 j))) := rfl
theorem o_m97 (g : Nat → Nat → Int) : o_mem g 97 = .inl (1, 8, .inl (fun j => o_I (g 97 j))) := rfl
theorem o_m98 (g : Nat → Nat → Int) : o_mem g 98 = .inr (4, [.int (o_I (g 98 0)), .ref 99, .ref 100]) := rfl
theorem o_m99 (g : Nat → Nat → Int) : o_mem g 99 = .inl (0, 8, .inl (fun j => o_I (g 99 j))) := rfl
theorem o_m100 (g : Nat → Nat → Int) : o_mem g 100 = .inl (0, 8, .inl (fun j => o_I (g 100 j))) := rfl
theorem o_m101 (g : Nat → Nat → Int) : o_mem g 101 = .inr (1, [.ref 102, .ref 106, .ref 112, .int (o_I (g 101 3)), .int (o_I (g 101 4)), .int (o_I (g 101 5)), .int (o_I (g 101 6))]) := rfl
theorem o_m102 (g : Nat → Nat → Int) : o_mem g 102 = .inr (2, [.int (o_I (g 102 0)), .ref 103, .ref 104, .ref 105]) := rfl
theorem o_m103 (g : Nat → Nat → Int) : o_mem g 103 = .inl (0, 6, .inl (fun j => o_I (g 103 j))) := rfl
theorem o_m104 (g : Nat → Nat → Int) : o_mem g 104 = .inl (0, 6, .inl (fun j => o_I (g 104 j))) := rfl
theorem o_m105 (g : Nat → Nat → Int) : o_mem g 105 = .inl (0, 6, .inl (fun j => o_I (g 105 j))) := rfl
theorem o_m106 (g : Nat → Nat → Int) : o_mem g 106 = .inr (3, [.int (o_I (g 106 0)), .ref 107, .ref 108, .ref 109, .ref 110, .ref 111]) := rfl
theorem o_m107 (g : Nat → Nat → Int) : o_mem g 107 = .inl (0, 8, .inl (fun j => o_I (g 107 j))) := rfl
theorem o_m108 (g : Nat → Nat → Int) : o_mem g 108 = .inl (0, 8, .inl (fun j => o_I (g 108 j))) := rfl
theorem o_m109 (g : Nat → Nat → Int) : o_mem g 109 = .inl (0, 8, .inl (fun j => o_I (g 109 j))) := rfl
theorem o_m110 (g : Nat → Nat → Int) : o_mem g 110 = .inl (0, 8, .inl (fun j => o_I (g 110 j))) := rfl
theorem o_m111 (g : Nat → Nat → Int) : o_mem g 111 = .inl (1, 8, .inl (fun j => o_I (g 111 j))) := rfl
theorem o_m112 (g : Nat → Nat → Int) : o_mem g 112 = .inr (4, [.int (o_I (g 112 0)), .ref 113, .ref 114]) := rfl
theorem o_m113 (g : Nat → Nat → Int) : o_mem g 113 = .inl (0, 8, .inl (fun j => o_I (g 113 j))) := rfl
theorem o_m114 (g : Nat → Nat → Int) : o_mem g 114 = .inl (0, 8, .inl (fun j => o_I (g 114 j))) := rfl
theorem o_m115 (g : Nat → Nat → Int) : o_mem g 115 = .inr (1, [.ref 116, .ref 120, .ref 126, .int (o_I (g 115 3)), .int (o_I (g 115 4)), .int (o_I (g 115 5)), .int (o_I (g 115 6))]) := rfl
theorem o_m116 (g : Nat → Nat → Int) : o_mem g 116 = .inr (2, [.int (o_I (g 116 0)), .ref 117, .ref 118, .ref 119]) := rfl
theorem o_m117 (g : Nat → Nat → Int) : o_mem g 117 = .inl (0, 6, .inl (fun j => o_I (g 117 j))) := rfl
theorem o_m118 (g : Nat → Nat → Int) : o_mem g 118 = .inl (0, 6, .inl (fun j => o_I (g 118 j))) := rfl
theorem o_m119 (g : Nat → Nat → Int) : o_mem g 119 = .inl (0, 6, .inl (fun j => o_I (g 119 j))) := rfl
theorem o_m120 (g : Nat → Nat → Int) : o_mem g 120 = .inr (3, [.int (o_I (g 120 0)), .ref 121, .ref 122, .ref 123, .ref 124, .ref 125]) := rfl
theorem o_m121 (g : Nat → Nat → Int) : o_mem g 121 = .inl (0, 8, .inl (fun j => o_I (g 121 j))) := rfl
theorem o_m122 (g : Nat → Nat → Int) : o_mem g 122 = .inl (0, 8, .inl (fun j => o_I (g 122 j))) := rfl
theorem o_m123 (g : Nat → Nat → Int) : o_mem g 123 = .inl (0, 8, .inl (fun j => o_I (g 123 j))) := rfl
theorem o_m124 (g : Nat → Nat → Int) : o_mem g 124 = .inl (0, 8, .inl (fun j => o_I (g 124 j))) := rfl
theorem o_m125 (g : Nat → Nat → Int) : o_mem g 125 = .inl (1, 8, .inl (fun j => o_I (g 125 j))) := rfl
theorem o_m126 (g : Nat → Nat → Int) : o_mem g 126 = .inr (4, [.int (o_I (g 126 0)), .ref 127, .ref 128]) := rfl
theorem o_m127 (g : Nat → Nat → Int) : o_mem g 127 = .inl (0, 8, .inl (fun j => o_I (g 127 j))) := rfl
theorem o_m128 (g : Nat → Nat → Int) : o_mem g 128 = .inl (0, 8, .inl (fun j => o_I (g 128 j))) := rfl
theorem o_m129 (g : Nat → Nat → Int) : o_mem g 129 = .inr (1, [.ref 130, .ref 134, .ref 140, .int (o_I (g 129 3)), .int (o_I (g 129 4)), .int (o_I (g 129 5)), .int (o_I (g 129 6))]) := rfl
theorem o_m130 (g : Nat → Nat → Int) : o_mem g 130 = .inr (2, [.int (o_I (g 130 0)), .ref 131, .ref 132, .ref 133]) := rfl
theorem o_m131 (g : Nat → Nat → Int) : o_mem g 131 = .inl (0, 6, .inl (fun j => o_I (g 131 j))) := rfl
theorem o_m132 (g : Nat → Nat → Int) : o_mem g 132 = .inl (0, 6, .inl (fun j => o_I (g 132 j))) := rfl
theorem o_m133 (g : Nat → Nat → Int) : o_mem g 133 = .inl (0, 6, .inl (fun j => o_I (g 133 j))) := rfl
theorem o_m134 (g : Nat → Nat → Int) : o_mem g 134 = .inr (3, [.int (o_I (g 134 0)), .ref 135, .ref 136, .ref 137, .ref 138, .ref 139]) := rfl
theorem o_m135 (g : Nat → Nat → Int) : o_mem g 135 = .inl (0, 8, .inl (fun j => o_I (g 135 j))) := rfl
theorem o_m136 (g : Nat → Nat → Int) : o_mem g 136 = .inl (0, 8, .inl (fun j => o_I (g 136 j))) := rfl
theorem o_m137 (g : Nat → Nat → Int) : o_mem g 137 = .inl (0, 8, .inl (fun j => o_I (g 137 j))) := rfl
theorem o_m138 (g : Nat → Nat → Int) : o_mem g 138 = .inl (0, 8, .inl (fun j => o_I (g 138 j))) := rfl
theorem o_m139 (g : Nat → Nat → Int) : o_mem g 139 = .inl (1, 8, .inl (fun j => o_I (g 139 j))) := rfl
theorem o_m140 (g : Nat → Nat → Int) : o_mem g 140 = .inr (4, [.int (o_I (g 140 0)), .ref 141, .ref 142]) := rfl
theorem o_m141 (g : Nat → Nat → Int) : o_mem g 141 = .inl (0, 8, .inl (fun j => o_I (g 141 j))) := rfl
theorem o_m142 (g : Nat → Nat → Int) : o_mem g 142 = .inl (0, 8, .inl (fun j => o_I (g 142 j))) := rfl
theorem o_m143 (g : Nat → Nat → Int) : o_mem g 143 = .inr (1, [.ref 144, .ref 148, .ref 154, .int (o_I (g 143 3)), .int (o_I (g 143 4)), .int (o_I (g 143 5)), .int (o_I (g 143 6))]) := rfl
theorem o_m144 (g : Nat → Nat → Int) : o_mem g 144 = .inr (2, [.int (o_I (g 144 0)), .ref 145, .ref 146, .ref 147]) := rfl
theorem o_m145 (g : Nat → Nat → Int) : o_mem g 145 = .inl (0, 6, .inl (fun j => o_I (g 145 j))) := rfl
theorem o_m146 (g : Nat → Nat → Int) : o_mem g 146 = .inl (0, 6, .inl (fun j => o_I (g 146 j))) := rfl
theorem o_m147 (g : Nat → Nat → Int) : o_mem g 147 = .inl (0, 6, .inl (fun j => o_I (g 147 j))) := rfl
theorem o_m148 (g : Nat → Nat → Int) : o_mem g 148 = .inr (3, [.int (o_I (g 148 0)), .ref 149, .ref 150, .ref 151, .ref 152, .ref 153]) := rfl
theorem o_m149 (g : Nat → Nat → Int) : o_mem g 149 = .inl (0, 8, .inl (fun j => o_I (g 149 j))) := rfl
theorem o_m150 (g : Nat → Nat → Int) : o_mem g 150 = .inl (0, 8, .inl (fun j => o_I (g 150 j))) := rfl
theorem o_m151 (g : Nat → Nat → Int) : o_mem g 151 = .inl (0, 8, .inl (fun j => o_I (g 151 j))) := rfl
theorem o_m152 (g : Nat → Nat → Int) : o_mem g 152 = .inl (0, 8, .inl (fun j => o_I (g 152 j))) := rfl
theorem o_m153 (g : Nat → Nat → Int) : o_mem g 153 = .inl (1, 8, .inl (fun j => o_I (g 153 j))) := rfl
theorem o_m154 (g : Nat → Nat → Int) : o_mem g 154 = .inr (4, [.int (o_I (g 154 0)), .ref 155, .ref 156]) := rfl
theorem o_m155 (g : Nat → Nat → Int) : o_mem g 155 = .inl (0, 8, .inl (fun j => o_I (g 155 j))) := rfl
theorem o_m156 (g : Nat → Nat → Int) : o_mem g 156 = .inl (0, 8, .inl (fun j => o_I (g 156 j))) := rfl
theorem o_m157 (g : Nat → Nat → Int) : o_mem g 157 = .inr (6, [.ref 158]) := rfl
theorem o_m158 (g : Nat → Nat → Int) : o_mem g 158 = .inl (0, 25, .inl (fun j => o_I (g 158 j))) := rfl
theorem o_m159 (g : Nat → Nat → Int) : o_mem g 159 = .inr (7, [.ref 160, .ref 161, .ref 162, .int (o_I (g 159 3))]) := rfl
theorem o_m160 (g : Nat → Nat → Int) : o_mem g 160 = .inl (0, 6, .inl (fun j => o_I (g 160 j))) := rfl
theorem o_m161 (g : Nat → Nat → Int) : o_mem g 161 = .inl (0, 6, .inl (fun j => o_I (g 161 j))) := rfl
theorem o_m162 (g : Nat → Nat → Int) : o_mem g 162 = .inl (1, 6, .inl (fun j => o_I (g 162 j))) := rfl
theorem o_m163 (g : Nat → Nat → Int) : o_mem g 163 = .inr (8, [.ref 164, .ref 165, .int (o_I (g 163 2)), .int (o_I (g 163 3)), .int (o_I (g 163 4))]) := rfl
theorem o_m164 (g : Nat → Nat → Int) : o_mem g 164 = .inl (2, 60, .inl (fun j => o_I (g 164 j))) := rfl
theorem o_m165 (g : Nat → Nat → Int) : o_mem g 165 = .inl (6, 12, .inr (.inr (.inr (.inr (fun j => some (166 + 2 * j)))))) := rfl
theorem o_m166 (g : Nat → Nat → Int) : o_mem g 166 = .inr (9, [.ref (1000000 + (g 166 0).toNat), .ref 167]) := rfl
theorem o_m167 (g : Nat → Nat → Int) : o_mem g 167 = .inl (0, 3, .inl (fun j => o_I (g 167 j))) := rfl
theorem o_m168 (g : Nat → Nat → Int) : o_mem g 168 = .inr (9, [.ref (1000000 + (g 168 0).toNat), .ref 169]) := rfl
theorem o_m169 (g : Nat → Nat → Int) : o_mem g 169 = .inl (0, 3, .inl (fun j => o_I (g 169 j))) := rfl
theorem o_m170 (g : Nat → Nat → Int) : o_mem g 170 = .inr (9, [.ref (1000000 + (g 170 0).toNat), .ref 171]) := rfl
theorem o_m171 (g : Nat → Nat → Int) : o_mem g 171 = .inl (0, 3, .inl (fun j => o_I (g 171 j))) := rfl
theorem o_m172 (g : Nat → Nat → Int) : o_mem g 172 = .inr (9, [.ref (1000000 + (g 172 0).toNat), .ref 173]) := rfl
theorem o_m173 (g : Nat → Nat → Int) : o_mem g 173 = .inl (0, 3, .inl (fun j => o_I (g 173 j))) := rfl
theorem o_m174 (g : Nat → Nat → Int) : o_mem g 174 = .inr (9, [.ref (1000000 + (g 174 0).toNat), .ref 175]) := rfl
theorem o_m175 (g : Nat → Nat → Int) : o_mem g 175 = .inl (0, 3, .inl (fun j => o_I (g 175 j))) := rfl
theorem o_m176 (g : Nat → Nat → Int) : o_mem g 176 = .inr (9, [.ref (1000000 + (g 176 0).toNat), .ref 177]) := rfl
theorem o_m177 (g : Nat → Nat → Int) : o_mem g 177 = .inl (0, 3, .inl (fun j => o_I (g 177 j))) := rfl
theorem o_m178 (g : Nat → Nat → Int) : o_mem g 178 = .inr (9, [.ref (1000000 + (g 178 0).toNat), .ref 179]) := rfl
theorem o_m179 (g : Nat → Nat → Int) : o_mem g 179 = .inl (0, 3, .inl (fun j => o_I (g 179 j))) := rfl
theorem o_m180 (g : Nat → Nat → Int) : o_mem g 180 = .inr (9, [.ref (1000000 + (g 180 0).toNat), .ref 181]) := rfl
theorem o_m181 (g : Nat → Nat → Int) : o_mem g 181 = .inl (0, 3, .inl (fun j => o_I (g 181 j))) := rfl
theorem o_m182 (g : Nat → Nat → Int) : o_mem g 182 = .inr (9, [.ref (1000000 + (g 182 0).toNat), .ref 183]) := rfl
theorem o_m183 (g : Nat → Nat → Int) : o_mem g 183 = .inl (0, 3, .inl (fun j => o_I (g 183 j))) := rfl
theorem o_m184 (g : Nat → Nat → Int) : o_mem g 184 = .inr (9, [.ref (1000000 + (g 184 0).toNat), .ref 185]) := rfl
theorem o_m185 (g : Nat → Nat → Int) : o_mem g 185 = .inl (0, 3, .inl (fun j => o_I (g 185 j))) := rfl
theorem o_m186 (g : Nat → Nat → Int) : o_mem g 186 = .inr (9, [.ref (1000000 + (g 186 0).toNat), .ref 187]) := rfl
theorem o_m187 (g : Nat → Nat → Int) : o_mem g 187 = .inl (0, 3, .inl (fun j => o_I (g 187 j))) := rfl
theorem o_m188 (g : Nat → Nat → Int) : o_mem g 188 = .inr (9, [.ref (1000000 + (g 188 0).toNat), .ref 189]) := rfl
theorem o_m189 (g : Nat → Nat → Int) : o_mem g 189 = .inl (0, 3, .inl (fun j => o_I (g 189 j))) := rfl
theorem o_m190 (g : Nat → Nat → Int) : o_mem g 190 = .inr (11, [.ref 191, .int (o_I (g 190 1)), .int (o_I (g 190 2)), .int (o_I (g 190 3))]) := rfl
theorem o_m191 (g : Nat → Nat → Int) : o_mem g 191 = .inl (3, (g 190 9).toNat, .inl (fun j => o_I (g 191 j))) := rfl
theorem o_m192 (g : Nat → Nat → Int) : o_mem g 192 = .inr (10, [.ref 193, .ref 194, .ref 195, .ref 196, .int (o_I (g 192 4)), .ref 197, .int (o_I (g 192 6)), .int (o_I (g 192 7)), .ref 198, .int (o_I (g 192 9)), .ref 199, .int (o_I (g 192 11)), .int (o_I (g 192 12)), .int (o_I (g 192 13)), .int (o_I (g 192 14)), .int (o_I (g 192 15)), .int (o_I (g 192 16)), .ref 200, .int (o_I (g 192 18))]) := rfl
theorem o_m193 (g : Nat → Nat → Int) : o_mem g 193 = .inl (0, 81, .inl (fun j => o_I (g 193 j))) := rfl
theorem o_m194 (g : Nat → Nat → Int) : o_mem g 194 = .inl (0, 81, .inl (fun j => o_I (g 194 j))) := rfl
theorem o_m195 (g : Nat → Nat → Int) : o_mem g 195 = .inl (0, 81, .inl (fun j => o_I (g 195 j))) := rfl
theorem o_m196 (g : Nat → Nat → Int) : o_mem g 196 = .inl (0, 81, .inl (fun j => o_I (g 196 j))) := rfl
theorem o_m197 (g : Nat → Nat → Int) : o_mem g 197 = .inl (0, 648, .inl (fun j => o_I (g 197 j))) := rfl
theorem o_m198 (g : Nat → Nat → Int) : o_mem g 198 = .inl (2, 120, .inl (fun j => o_I (g 198 j))) := rfl
theorem o_m199 (g : Nat → Nat → Int) : o_mem g 199 = .inl (2, 60, .inl (fun j => o_I (g 199 j))) := rfl
theorem o_m200 (g : Nat → Nat → Int) : o_mem g 200 = .inl (0, 240, .inl (fun j => o_I (g 200 j))) := rfl
theorem o_m201 (g : Nat → Nat → Int) : o_mem g 201 = .inl (4, 1, .inr (.inl (fun j => Int64.ofInt (g 201 j)))) := rfl
theorem o_m202 (g : Nat → Nat → Int) : o_mem g 202 = .inl (5, 1, .inr (.inr (.inr (.inl (fun j => UInt64.ofNat (g 202 j).toNat))))) := rfl
section OS
variable {l : Launch} {M : o_M} {d : Nat} {al : Nat → Prop} {post : o_P} {pc : Nat} {ls : List (Nat × Value)} {st : List Value} {n : Nat} {h : Nat → o_C} {mc ms : Nat} {g : Nat → Nat → Int}
theorem o_gf {b ci k i : Nat} {fs : List Value} {v : Value} (hd : decode M.2.1 pc = .ok (.getfield i, 3)) (hf : o_fl M.1 i ci k) (hh : h b = .inr (ci, fs)) (hb : b < n) (hv : fs[k]? = some v) (k9 : o_V l M d al post (pc + 3) ls (v :: st) n h mc ms) : o_V l M d al post pc ls (.ref b :: st) n h mc ms := by
  obtain ⟨C, T, N, h1, h2, h3⟩ := hf
  exact o_getf hd hb hh h1 h2 h3 hv k9
theorem o_pf {b ci k i : Nat} {fs : List Value} {v : Value} {ty : FieldType} {h' : Nat → o_C} (hd : decode M.2.1 pc = .ok (.putfield i, 3)) (hf : o_fp M.1 i ci k ty) (hh : h b = .inr (ci, fs)) (hb : b < n) (hl : k < fs.length) (hn : ∀ ad, narrow ty (o_rV ad v) = o_rV ad v) (hf2 : ∀ ad, fits ty (o_rV ad v) = true) (e9 : o_up h b (.inr (ci, fs.set k v)) = h') (k9 : o_V l M d al post (pc + 3) ls st n h' mc ms) : o_V l M d al post pc ls (v :: .ref b :: st) n h mc ms := by
  obtain ⟨C, T, N, h1, h2, h3, h4, h5⟩ := hf
  exact o_putf hd hb hh h1 h2 h3 h4 h5 hl hn hf2 e9 k9
abbrev o_FF (k : Nat) : (Nat → Int) → Int → o_C := o_F.getD k (fun _ _ => .inr (0, []))
/-- an int field is written, in the shape -/
theorem o_pm {b ci k i : Nat} {fs : List Value} {z : Int} {ty : FieldType} (hd : decode M.2.1 pc = .ok (.putfield i, 3)) (hf : o_fp M.1 i ci k ty) (hh : o_mem g b = .inr (ci, fs)) (hb : b < n) (hl : k < fs.length) (hn : narrow ty (.int (o_I z)) = .int (o_I z)) (hf2 : fits ty (.int (o_I z)) = true) (hc : Sum.inr (ci, fs.set k (.int (o_I z))) = o_FF b (o_u (g b) k z) (g 190 9)) (h9 : (o_w g b (o_u (g b) k z)) 190 9 = g 190 9) (k9 : o_V l M d al post (pc + 3) ls st n (o_mem (o_w g b (o_u (g b) k z))) mc ms) : o_V l M d al post pc ls (.int (o_I z) :: .ref b :: st) n (o_mem g) mc ms :=
  o_pf hd hf hh hb hl (fun _ => hn) (fun _ => hf2) (o_mw hc h9) k9
/-- an int of an array is written, in the shape -/
theorem o_iam {b len : Nat} {f : Nat → Int} {i z : Int} (hd : decode M.2.1 pc = .ok (.iastore, 1)) (hh : o_mem g b = .inl (0, len, .inl (fun j => o_I (f j)))) (hb : b < n) (hle : len ≤ 2147483647) (h0 : 0 ≤ i) (h1 : i < len) (hc : ∀ f' : Nat → Int, (Sum.inl (0, len, .inl (fun j => o_I (f' j))) : o_C) = o_FF b f' (g 190 9)) (h9 : (o_w g b (o_u f i.toNat z)) 190 9 = g 190 9) (k9 : o_V l M d al post (pc + 1) ls st n (o_mem (o_w g b (o_u f i.toNat z))) mc ms) : o_V l M d al post pc ls (.int (o_I z) :: .int (o_I i) :: .ref b :: st) n (o_mem g) mc ms :=
  o_iast hd hb hh hle h0 h1 (o_mw (hc _) h9) k9
theorem o_zam {b len : Nat} {f : Nat → Int} {i z : Int} (hd : decode M.2.1 pc = .ok (.bastore, 1)) (hh : o_mem g b = .inl (1, len, .inl (fun j => o_I (f j)))) (hb : b < n) (hle : len ≤ 2147483647) (h0 : 0 ≤ i) (h1 : i < len) (hz : z = 0 ∨ z = 1) (hc : ∀ f' : Nat → Int, (Sum.inl (1, len, .inl (fun j => o_I (f' j))) : o_C) = o_FF b f' (g 190 9)) (h9 : (o_w g b (o_u f i.toNat z)) 190 9 = g 190 9) (k9 : o_V l M d al post (pc + 1) ls st n (o_mem (o_w g b (o_u f i.toNat z))) mc ms) : o_V l M d al post pc ls (.int (o_I z) :: .int (o_I i) :: .ref b :: st) n (o_mem g) mc ms :=
  o_zast hd hb hh hle h0 h1 (by rcases hz with rfl | rfl <;> decide +kernel) (o_mw (hc _) h9) k9
theorem o_cam {b len : Nat} {f : Nat → Int} {i z : Int} (hd : decode M.2.1 pc = .ok (.castore, 1)) (hh : o_mem g b = .inl (2, len, .inl (fun j => o_I (f j)))) (hb : b < n) (hle : len ≤ 2147483647) (h0 : 0 ≤ i) (h1 : i < len) (hz : vp_nar .char (o_I z) = o_I z) (hc : ∀ f' : Nat → Int, (Sum.inl (2, len, .inl (fun j => o_I (f' j))) : o_C) = o_FF b f' (g 190 9)) (h9 : (o_w g b (o_u f i.toNat z)) 190 9 = g 190 9) (k9 : o_V l M d al post (pc + 1) ls st n (o_mem (o_w g b (o_u f i.toNat z))) mc ms) : o_V l M d al post pc ls (.int (o_I z) :: .int (o_I i) :: .ref b :: st) n (o_mem g) mc ms :=
  o_cast hd hb hh hle h0 h1 hz (o_mw (hc _) h9) k9
/-- booleans -/
def o_b (p : Prop) [Decidable p] : Int := if p then 1 else 0
theorem o_b1 {p : Prop} [Decidable p] (h : p) : o_b p = 1 := if_pos h
theorem o_b0 {p : Prop} [Decidable p] (h : ¬ p) : o_b p = 0 := if_neg h
theorem o_bR (p : Prop) [Decidable p] : o_R (o_b p) := by
  unfold o_b
  split <;> exact ⟨by omega, by omega⟩
theorem o_b01 (p : Prop) [Decidable p] : o_b p = 0 ∨ o_b p = 1 := by
  unfold o_b
  split <;> simp
theorem o_bn (p : Prop) [Decidable p] : narrow .boolean (.int (o_I (o_b p))) = .int (o_I (o_b p)) := by
  rcases o_b01 p with q | q <;> rw [q] <;> decide +kernel
theorem o_ifb_eq {p : Prop} [Decidable p] {off : Int} {tgt : Nat} (hd : decode M.2.1 pc = .ok (.ifCond .eq off, 3)) (ht : (pc : Int) + off = (tgt : Int)) (k1 : ¬ p → o_V l M d al post tgt ls st n h mc ms) (k2 : p → o_V l M d al post (pc + 3) ls st n h mc ms) : o_V l M d al post pc ls (.int (o_I (o_b p)) :: st) n h mc ms :=
  o_if_eq hd ht (o_bR p) (fun q => k1 (fun z => by rw [o_b1 z] at q; cases q)) (fun q => k2 (Classical.byContradiction fun z => q (o_b0 z)))
theorem o_ifb_ne {p : Prop} [Decidable p] {off : Int} {tgt : Nat} (hd : decode M.2.1 pc = .ok (.ifCond .ne off, 3)) (ht : (pc : Int) + off = (tgt : Int)) (k1 : p → o_V l M d al post tgt ls st n h mc ms) (k2 : ¬ p → o_V l M d al post (pc + 3) ls st n h mc ms) : o_V l M d al post pc ls (.int (o_I (o_b p)) :: st) n h mc ms :=
  o_if_ne hd ht (o_bR p) (fun q => k1 (Classical.byContradiction fun z => q (o_b0 z))) (fun q => k2 (fun z => by rw [o_b1 z] at q; cases q))
theorem o_isB {p : Prop} [Decidable p] {z : Int} (hz : o_b p = z) : o_is (some (.int (o_I (o_b p)))) n h (.inl (some (.int (o_I z)))) n h := ⟨by rw [hz], rfl, rfl⟩
end OS
end
section
/-! 'throw new E("text")', the text by a wide index: o_makeSW follows vx_makeS of the kit's laws, with ldc_w for ldc -/
section OTW
variable {p : Program} {l : Launch} {e : Env} {R : Room} {s : State} {m : MethodId} {args : Array Value} {below : List Frame} {meth : Method} {c : Code} {H : Heap} {locs : List Loc} {cells slots : Nat} {Q : State → Prop}
variable {ls : Array Slot} {rest : List Value} {D : va_G} {cl : List vw_C} {tys : List (ClassId × FieldType)} {ws : va_W}
theorem o_makeSW {cc : ByteArray} {pc : Nat} (hexec : p.tables.exec = Jvm.exec) (hb : c.code = cc) (hl : l.stackTraces = false) {own cls text : String} {names : List String} {ik is ic sa ci : Nat} {A : Nat → Prop} {T0 : u_T}
    (hown : s.vm.findClass own = some m.cls) (hcls : Bundle.fit cls = true) (hnames : ∀ n ∈ names, Bundle.fit n = true)
    (hk : (Cond.classLink own ik cls).before args s = true) (hini : (Cond.initialized cls).before args s = true) (hstr : vk_R own is text sa s) (hat : ∀ w ∈ vx_atS own ic cls names, w.before args s = true)
    (hgood : ∀ w ∈ Cond.classLink own ik cls :: Cond.initialized cls :: vx_atS own ic cls names, vx_ot w = true)
    (hU : vx_Zq Bundle.tN "UNASSIGNED_STACK" Bundle.steD A s s.heap) (hN : vx_Zq Bundle.tN "SUPPRESSED_SENTINEL" Bundle.listD A s s.heap) (hS : va_S A s.heap H locs) (hsize : ls.size = c.maxLocals)
    (d0 : decode cc pc = .ok (.new ik, 3)) (d3 : decode cc (pc + 3) = .ok (.dup, 1)) (d4 : decode cc (pc + 4) = .ok (.ldc_w is, 3)) (d6 : decode cc (pc + 7) = .ok (.invokespecial ic, 3))
    (hK : va_K D cl tys s) (hP : va_P D cl ws H) (hD : va_D A ws) (hA : ∀ q, s.heap.size ≤ q → A q) (hc : cl[ci]? = some (cls, T0, 0))
    (hRframes : names.length + 3 < R.frames) (hRlocals : (rest.map fun v => v.category).sum + (13 * (names.length + 1) + 43) ≤ R.locals) (hRcells : cells + 1 ≤ R.cells) (hRslots : slots + 6 ≤ R.slots)
    (kk : ∀ (q : Nat) (H1 : Heap), va_P D cl (ws ++ [(q, .inr (ci, []))]) H1 → va_D A (ws ++ [(q, .inr (ci, []))]) → va_S A s.heap H1 locs → W p l e R s m args below meth c H1 locs (cells + 1) (slots + 6) Q (F0 m (pc + 10) ls (.ref q :: rest))) :
    W p l e R s m args below meth c H locs cells slots Q (F0 m pc ls rest) := by
  intro T hT X
  subst hT
  have htr : e.platform.stackTraces = false := (show e.platform.stackTraces = l.stackTraces by rw [X.admits.platform]).trans hl
  have Y := vx_rebase X (R' := { frames := R.frames, locals := R.locals, cells := 1, slots := 6 }) (Nat.le_refl _) (Nat.le_refl _) hRcells hRslots
  obtain ⟨s', hA'⟩ : ∃ z, z = (T.setVm s.vm).setFrames (.invoking m args :: below) := ⟨_, rfl⟩
  rw [← hA'] at Y
  have hvm : s'.vm = s.vm := by rw [hA']; rfl
  have hhp : s'.heap = T.heap := by rw [hA']; rfl
  have hW0 : s.WarmedH s'.vm := by rw [hvm]; exact State.WarmedH.refl s
  have hat' : ∀ w ∈ vx_atS own ic cls names, w.before args s' = true := fun w hw => vx_ot_at hW0 hvm.symm (hgood w (List.mem_cons_of_mem _ (List.mem_cons_of_mem _ hw))) (hat w hw)
  have hk' : (Cond.classLink own ik cls).before args s' = true := vx_ot_at hW0 hvm.symm (hgood _ List.mem_cons_self) hk
  have hini' : (Cond.initialized cls).before args s' = true := vx_ot_at hW0 hvm.symm (hgood _ (List.mem_cons_of_mem _ List.mem_cons_self)) hini
  have hU' : vx_Zq Bundle.tN "UNASSIGNED_STACK" Bundle.steD A s' s'.heap := by rw [hhp]; exact vx_Zq.moved hW0.alike (hU.kept hS.2.1)
  have hN' : vx_Zq Bundle.tN "SUPPRESSED_SENTINEL" Bundle.listD A s' s'.heap := by rw [hhp]; exact vx_Zq.moved hW0.alike (hN.kept hS.2.1)
  have h : ∀ w ∈ Bundle.ownAtoms own ic cls names, w.before args s' = true := vx_own hat' (vx_isRefq hU'.1) (vx_isRefq hN'.1) hU'.2.word hN'.2.word
  have hown' : s'.vm.findClass own = some m.cls := by rw [hvm]; exact hown
  have hins : (Cond.instantiable cls 6).before args s' = true := h _ (by simp [Bundle.ownAtoms])
  obtain ⟨vm₁, cX, kX, hfX, hkX, -, -, X₁, st1⟩ := Y.newCold hexec (own := own) (C := cls) (index := ik) (n := 6) hown' hk' hins hini'
    (g := F0 m pc ls rest) rfl (by rw [hb]; exact d0) (Nat.le_refl _) (Nat.le_refl _)
  generalize hT1 : (T.setVm vm₁).pushCell { cls := cX, slots := kX.instanceTypes.map defaultValue, vm := .none } = T1 at X₁ st1
  have hcat : (Value.ref T.heap.size).category = 1 := rfl
  have hcellA : T1.heap[T.heap.size]? = some (freshCell cX kX) := by rw [← hT1]; exact State.heap_pushCell_size _ _
  have d3' : decode c.code (pc + 3) = .ok (.dup, 1) := by rw [hb]; exact d3
  have d4' : decode c.code (pc + 4) = .ok (.ldc_w is, 3) := by rw [hb]; exact d4
  have hstr' : vk_R own is text sa s' := vk_R.warm hW0 hstr
  obtain ⟨V, ce, L, Z, hL, hlt, hcl9, hvm9, st⟩ := vx_ctorMadeS X₁ hexec htr (own := own) (cls := cls) (names := names) (ic := ic) hown' hcls hnames h (fun x hx => nomatch hx) hfX hkX hcellA (by rw [hhp]; exact Nat.le_refl _) (msg := .ref sa) rfl
    (g := { method := m, pc := pc + 7, locals := ls, stack := .ref sa :: .ref T.heap.size :: .ref T.heap.size :: rest, locked := none }) rfl hsize (rest := rest) rfl
    (by rw [hb]; exact d6) hRframes (by simp only [List.map_cons, List.sum_cons, hcat]; omega)
  have Z0 := Stand.forget (locs := []) Z (fun y hy => by rw [hL y hy, hhp]; exact Nat.le_refl _)
  obtain ⟨f1, f2⟩ := vx_frame Z0.same
  rw [hhp] at f1 f2
  have hcid : ce.cls = D.1 ci := by
    rw [hcl9]
    have h1 := (hK.1 ci _ hc).2.1
    rw [hvm] at hfX
    exact Option.some.inj (hfX.symm.trans h1)
  have hh : (V.setCell T.heap.size ce).heap[T.heap.size]? = some ce := heapAt_setCell_self (s := V) ce hlt
  subst hA'
  have X5 := vx_back9 X Y Z0
  have X6 : Stand p l e R s m args below meth c (V.setCell T.heap.size ce) locs (cells + 1) (slots + 6) := { X5 with same := X5.same.mono (by omega) (by omega) }
  have hk9 : ∀ (k : Nat) (x : Nat × va_E), ws[k]? = some x → (V.setCell T.heap.size ce).heap[x.1]? = T.heap[x.1]? := fun k x hx => f2 x.1 ((hP k x hx).lt) (fun z hz => nomatch hz)
  obtain ⟨t, a1, b1⟩ := kk T.heap.size (V.setCell T.heap.size ce).heap ((hP.kept hk9).app (fun k x hx => by
      have hz : k < 1 := (List.getElem?_eq_some_iff.mp hx).1
      rw [show k = 0 by omega] at hx
      cases hx
      exact ⟨_, hc, ce, hh, hcid, hvm9, fun k hk => absurd hk (Nat.not_lt_zero k)⟩)) (hD.push hP rfl (hA _ hS.1)) ⟨Nat.le_trans hS.1 f1, fun q h1 h2 => (f2 q (Nat.lt_of_lt_of_le h1 hS.1) (fun z hz => nomatch hz)).trans (hS.2.1 q h1 h2), hS.2.2⟩ _ rfl X6
  refine ⟨t, st1 _ ?_, b1⟩
  show Steps p.tables e below (T1.setTop { method := m, pc := pc + 3, locals := ls, stack := .ref T.heap.size :: rest, locked := none }) _
  jvm_step X₁.here [X₁.here.top, hexec, d3', Value.category]
  exact X₁.ldcStringW hexec (own := own) (text := text) (index := is) (a := sa) hown' hstr'.1 hstr'.2
    (g := { method := m, pc := pc + 4, locals := ls, stack := .ref T.heap.size :: .ref T.heap.size :: rest, locked := none }) rfl d4' _ (st _ a1)
end OTW
section OTV
variable {l : Launch} {M : o_M} {d : Nat} {al : Nat → Prop} {post : o_P} {pc : Nat} {ls : List (Nat × Value)} {st : List Value} {n : Nat} {h : Nat → o_C} {mc ms : Nat}
theorem o_throwW {cls text : String} {names : List String} {ik is ic ci sn : Nat} (hd0 : decode M.2.1 pc = .ok (.new ik, 3)) (hd3 : decode M.2.1 (pc + 3) = .ok (.dup, 1)) (hd4 : decode M.2.1 (pc + 4) = .ok (.ldc_w is, 3)) (hd6 : decode M.2.1 (pc + 7) = .ok (.invokespecial ic, 3)) (hd9 : decode M.2.1 (pc + 10) = .ok (.athrow, 1))
    (hcls : Bundle.fit cls = true) (hnames : ∀ n ∈ names, Bundle.fit n = true) (hnl : names.length ≤ 3) (hk : Cond.classLink M.1 ik cls ∈ o_gW) (hini : Cond.initialized cls ∈ o_gW) (hat : ∀ w ∈ vx_atS M.1 ic cls names, w ∈ o_gW) (hgood : ∀ w ∈ Cond.classLink M.1 ik cls :: Cond.initialized cls :: vx_atS M.1 ic cls names, vx_ot w = true)
    (hs9 : (M.1, is, text, sn) ∈ o_str) (hc : o_cl[ci]? = some (cls, o_T0, 0)) (hT : M.2.2.2.2 = []) (hmc : 1 ≤ mc) (hms : 6 ≤ ms) (hcat : (st.map fun v => v.category).sum ≤ 8) (hp : post (.inr cls) n h) : o_V l M d al post pc ls st n h mc ms := by
  intro Z p e R s m args below meth c ad H locs cells slots MC MS la Q X E S P a1 a2 a3 a4 L K
  obtain ⟨hx, hbb, hown, hts, hml, hr, hlk, htab, hst9, hfr9, hlo9⟩ := id X
  obtain ⟨e1, e2, e3, e4, e5, ⟨e6, e7⟩, e8⟩ := id E
  have h11 : names.length + 3 < R.frames := by omega
  have h12 : ((st.map (o_rV ad)).map fun v => v.category).sum + (13 * (names.length + 1) + 43) ≤ R.locals := by rw [o_cats]; omega
  refine o_makeSW (D := Z.2.1) (cl := o_cl) (tys := o_tys Z) (ws := o_rW ad Z.2.2.1 n h) (A := o_A Z) (T0 := o_T0) (ci := ci) hx hbb hst9 hown hcls hnames (hts _ hk) (hts _ hini) (e5 _ hs9) (fun w hw => hts _ (hat w hw)) hgood e6 e7 S (L.1.trans hml.symm) hd0 hd3 hd4 hd6 e2 P.1 P.2 (fun q hq => Nat.le_trans e1 hq) hc h11 h12 (by omega) (by omega) (fun q H1 hP hD hS => ?_)
  refine vx_athrow hx hbb hd9 ?_
  have hcell := hP n (q, .inr (ci, [])) (by simp [o_rW])
  obtain ⟨r, hr9, cell, g1, g2, g3, -⟩ := hcell
  cases Option.some.inj (hr9.symm.trans hc)
  exact K.2 cls q cell n h ad H1 locs (cells + 1) (slots + 6) (pc + 10) la (st.map (o_rV ad)) hp o_ag.rf ⟨hP.left, hD.left⟩ hS (by omega) (by omega) hT g1 g3 (by rw [g2]; exact (e2.1 ci _ hc).2.1)
end OTV
end
