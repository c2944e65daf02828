theorem jw_1583 : Cond.code ⟨"LevelingNetwork$History", "popInto", "(LLevelingNetwork$Survey;)V"⟩ prog_7_method_3_code 2 (Option.none : Option ClassFile.FieldType) ∈ jk_WS := jk_wt7 (i := 143) (by decide +kernel) rfl
theorem jw_1584 : Cond.methodLink "LevelingNetworkLaw" 205 ⟨"LevelingNetwork", "save", "()I"⟩ ∈ jk_WS := jk_wt7 (i := 144) (by decide +kernel) rfl
theorem jw_1585 : Cond.instanceMethod ⟨"LevelingNetwork", "save", "()I"⟩ ∈ jk_WS := jk_wt7 (i := 145) (by decide +kernel) rfl
theorem jw_1586 : Cond.selects "LevelingNetwork" ⟨"LevelingNetwork", "save", "()I"⟩ ⟨"LevelingNetwork", "save", "()I"⟩ ∈ jk_WS := jk_wt7 (i := 146) (by decide +kernel) rfl
theorem jw_1587 : Cond.code ⟨"LevelingNetwork", "save", "()I"⟩ prog_1_method_63_code 1 (Option.some ClassFile.FieldType.int) ∈ jk_WS := jk_wt7 (i := 147) (by decide +kernel) rfl
theorem jw_1588 : Cond.methodLink "LevelingNetworkLaw" 341 ⟨"LevelingNetwork", "restore", "()I"⟩ ∈ jk_WS := jk_wt7 (i := 148) (by decide +kernel) rfl
theorem jw_1589 : Cond.instanceMethod ⟨"LevelingNetwork", "restore", "()I"⟩ ∈ jk_WS := jk_wt7 (i := 149) (by decide +kernel) rfl
theorem jw_1590 : Cond.selects "LevelingNetwork" ⟨"LevelingNetwork", "restore", "()I"⟩ ⟨"LevelingNetwork", "restore", "()I"⟩ ∈ jk_WS := jk_wt7 (i := 150) (by decide +kernel) rfl
theorem jw_1591 : Cond.code ⟨"LevelingNetwork", "restore", "()I"⟩ prog_1_method_64_code 1 (Option.some ClassFile.FieldType.int) ∈ jk_WS := jk_wt7 (i := 151) (by decide +kernel) rfl
theorem jw_1593 : Cond.methodLink "LevelingNetworkLaw" 24 ⟨"LevelingNetworkLaw", "at", "([II)I"⟩ ∈ jk_WS := jk_wt7 (i := 153) (by decide +kernel) rfl
theorem jw_1594 : Cond.static ⟨"LevelingNetworkLaw", "at", "([II)I"⟩ ∈ jk_WS := jk_wt7 (i := 154) (by decide +kernel) rfl
theorem jw_1595 : Cond.code ⟨"LevelingNetworkLaw", "at", "([II)I"⟩ method_2_code 2 (Option.some ClassFile.FieldType.int) ∈ jk_WS := jk_wt7 (i := 155) (by decide +kernel) rfl
theorem jw_1596 : Cond.methodLink "LevelingNetworkLaw" 214 ⟨"LevelingNetworkLaw", "put", "(LLevelingNetwork;Ljava/lang/String;)V"⟩ ∈ jk_WS := jk_wt7 (i := 156) (by decide +kernel) rfl
theorem jw_1597 : Cond.static ⟨"LevelingNetworkLaw", "put", "(LLevelingNetwork;Ljava/lang/String;)V"⟩ ∈ jk_WS := jk_wt7 (i := 157) (by decide +kernel) rfl
theorem jw_1598 : Cond.code ⟨"LevelingNetworkLaw", "put", "(LLevelingNetwork;Ljava/lang/String;)V"⟩ method_3_code 3 (Option.none : Option ClassFile.FieldType) ∈ jk_WS := jk_wt7 (i := 158) (by decide +kernel) rfl
theorem jw_1599 : Cond.methodLink "LevelingNetworkLaw" 7 ⟨"java/lang/String", "length", "()I"⟩ ∈ jk_WS := jk_wt7 (i := 159) (by decide +kernel) rfl
theorem jw_1600 : Cond.methodLink "LevelingNetworkLaw" 13 ⟨"java/lang/String", "charAt", "(I)C"⟩ ∈ jk_WS := jk_wt7 (i := 160) (by decide +kernel) rfl
theorem jw_1601 : Cond.methodLink "LevelingNetworkLaw" 17 ⟨"LevelingNetwork", "type", "(C)I"⟩ ∈ jk_WS := jk_wt7 (i := 161) (by decide +kernel) rfl
theorem jw_1602 : Cond.instanceMethod ⟨"LevelingNetwork", "type", "(C)I"⟩ ∈ jk_WS := jk_wt7 (i := 162) (by decide +kernel) rfl
theorem jw_1603 : Cond.selects "LevelingNetwork" ⟨"LevelingNetwork", "type", "(C)I"⟩ ⟨"LevelingNetwork", "type", "(C)I"⟩ ∈ jk_WS := jk_wt7 (i := 163) (by decide +kernel) rfl
theorem jw_1604 : Cond.code ⟨"LevelingNetwork", "type", "(C)I"⟩ prog_1_method_58_code 2 (Option.some ClassFile.FieldType.int) ∈ jk_WS := jk_wt7 (i := 164) (by decide +kernel) rfl
theorem jw_1607 : Cond.methodLink "LevelingNetwork" 386 ⟨"LevelingNetwork$Script", "add", "(C)V"⟩ ∈ jk_WS := jk_wt7 (i := 167) (by decide +kernel) rfl
theorem jw_1608 : Cond.instanceMethod ⟨"LevelingNetwork$Script", "add", "(C)V"⟩ ∈ jk_WS := jk_wt7 (i := 168) (by decide +kernel) rfl
theorem jw_1609 : Cond.selects "LevelingNetwork$Script" ⟨"LevelingNetwork$Script", "add", "(C)V"⟩ ⟨"LevelingNetwork$Script", "add", "(C)V"⟩ ∈ jk_WS := jk_wt7 (i := 169) (by decide +kernel) rfl
theorem jw_1610 : Cond.code ⟨"LevelingNetwork$Script", "add", "(C)V"⟩ prog_9_method_2_code 2 (Option.none : Option ClassFile.FieldType) ∈ jk_WS := jk_wt7 (i := 170) (by decide +kernel) rfl
theorem jw_1611 : Cond.methodLink "LevelingNetworkLaw" 201 ⟨"LevelingNetworkLaw", "build", "([I)LLevelingNetwork;"⟩ ∈ jk_WS := jk_wt7 (i := 171) (by decide +kernel) rfl
theorem jw_1612 : Cond.static ⟨"LevelingNetworkLaw", "build", "([I)LLevelingNetwork;"⟩ ∈ jk_WS := jk_wt7 (i := 172) (by decide +kernel) rfl
theorem jw_1613 : Cond.code ⟨"LevelingNetworkLaw", "build", "([I)LLevelingNetwork;"⟩ method_4_code 10 (Option.some (ClassFile.FieldType.object "LevelingNetwork")) ∈ jk_WS := jk_wt7 (i := 173) (by decide +kernel) rfl
theorem jw_1614 : Cond.methodLink "LevelingNetworkLaw" 30 ⟨"LevelingNetworkLaw", "act", "(LLevelingNetwork;IIII)I"⟩ ∈ jk_WS := jk_wt7 (i := 174) (by decide +kernel) rfl
theorem jw_1615 : Cond.static ⟨"LevelingNetworkLaw", "act", "(LLevelingNetwork;IIII)I"⟩ ∈ jk_WS := jk_wt7 (i := 175) (by decide +kernel) rfl
theorem jw_1616 : Cond.codeWith ⟨"LevelingNetworkLaw", "act", "(LLevelingNetwork;IIII)I"⟩ method_6_code 6 (Option.some ClassFile.FieldType.int) [(0, 116, 268, 57), (117, 123, 268, 57), (124, 129, 268, 57), (130, 136, 268, 57), (137, 142, 268, 57), (143, 148, 268, 57), (149, 154, 268, 57), (155, 160, 268, 57), (161, 169, 268, 57), (170, 175, 268, 57), (176, 181, 268, 57), (182, 187, 268, 57), (188, 193, 268, 57), (194, 199, 268, 57), (200, 206, 268, 57), (207, 212, 268, 57), (213, 218, 268, 57), (219, 224, 268, 57), (225, 230, 268, 57), (231, 236, 268, 57), (237, 242, 268, 57), (243, 248, 268, 57), (249, 254, 268, 57), (255, 261, 268, 57), (262, 267, 268, 57), (0, 116, 273, 60), (117, 123, 273, 60), (124, 129, 273, 60), (130, 136, 273, 60), (137, 142, 273, 60), (143, 148, 273, 60), (149, 154, 273, 60), (155, 160, 273, 60), (161, 169, 273, 60), (170, 175, 273, 60), (176, 181, 273, 60), (182, 187, 273, 60), (188, 193, 273, 60), (194, 199, 273, 60), (200, 206, 273, 60), (207, 212, 273, 60), (213, 218, 273, 60), (219, 224, 273, 60), (225, 230, 273, 60), (231, 236, 273, 60), (237, 242, 273, 60), (243, 248, 273, 60), (249, 254, 273, 60), (255, 261, 273, 60), (262, 267, 273, 60), (0, 116, 278, 63), (117, 123, 278, 63), (124, 129, 278, 63), (130, 136, 278, 63), (137, 142, 278, 63), (143, 148, 278, 63), (149, 154, 278, 63), (155, 160, 278, 63), (161, 169, 278, 63), (170, 175, 278, 63), (176, 181, 278, 63), (182, 187, 278, 63), (188, 193, 278, 63), (194, 199, 278, 63), (200, 206, 278, 63), (207, 212, 278, 63), (213, 218, 278, 63), (219, 224, 278, 63), (225, 230, 278, 63), (231, 236, 278, 63), (237, 242, 278, 63), (243, 248, 278, 63), (249, 254, 278, 63), (255, 261, 278, 63), (262, 267, 278, 63), (0, 116, 283, 142), (117, 123, 283, 142), (124, 129, 283, 142), (130, 136, 283, 142), (137, 142, 283, 142), (143, 148, 283, 142), (149, 154, 283, 142), (155, 160, 283, 142), (161, 169, 283, 142), (170, 175, 283, 142), (176, 181, 283, 142), (182, 187, 283, 142), (188, 193, 283, 142), (194, 199, 283, 142), (200, 206, 283, 142), (207, 212, 283, 142), (213, 218, 283, 142), (219, 224, 283, 142), (225, 230, 283, 142), (231, 236, 283, 142), (237, 242, 283, 142), (243, 248, 283, 142), (249, 254, 283, 142), (255, 261, 283, 142), (262, 267, 283, 142), (0, 116, 288, 145), (117, 123, 288, 145), (124, 129, 288, 145), (130, 136, 288, 145), (137, 142, 288, 145), (143, 148, 288, 145), (149, 154, 288, 145), (155, 160, 288, 145), (161, 169, 288, 145), (170, 175, 288, 145), (176, 181, 288, 145), (182, 187, 288, 145), (188, 193, 288, 145), (194, 199, 288, 145), (200, 206, 288, 145), (207, 212, 288, 145), (213, 218, 288, 145), (219, 224, 288, 145), (225, 230, 288, 145), (231, 236, 288, 145), (237, 242, 288, 145), (243, 248, 288, 145), (249, 254, 288, 145), (255, 261, 288, 145), (262, 267, 288, 145)] ∈ jk_WS := jk_wt7 (i := 176) (by decide +kernel) rfl
theorem jw_1617 : Cond.classLink "LevelingNetworkLaw" 57 "java/lang/IndexOutOfBoundsException" ∈ jk_WS := jk_wt7 (i := 177) (by decide +kernel) rfl
theorem jw_1618 : Cond.instanceMethod ⟨"java/lang/ArrayIndexOutOfBoundsException", "<init>", "(Ljava/lang/String;)V"⟩ ∈ jk_WS := jk_wt7 (i := 178) (by decide +kernel) rfl
theorem jw_1619 : Cond.code ⟨"java/lang/ArrayIndexOutOfBoundsException", "<init>", "(Ljava/lang/String;)V"⟩ prog_20_method_2_code 2 (Option.none : Option ClassFile.FieldType) ∈ jk_WS := jk_wt7 (i := 179) (by decide +kernel) rfl
theorem jw_1620 : Cond.classLink "LevelingNetworkLaw" 60 "java/lang/IllegalArgumentException" ∈ jk_WS := jk_wt7 (i := 180) (by decide +kernel) rfl
theorem jw_1621 : Cond.classLink "LevelingNetworkLaw" 63 "java/lang/IllegalStateException" ∈ jk_WS := jk_wt7 (i := 181) (by decide +kernel) rfl
theorem jw_1622 : Cond.classLink "LevelingNetworkLaw" 142 "java/lang/UnsupportedOperationException" ∈ jk_WS := jk_wt7 (i := 182) (by decide +kernel) rfl
theorem jw_1623 : Cond.classLink "LevelingNetworkLaw" 145 "java/util/NoSuchElementException" ∈ jk_WS := jk_wt7 (i := 183) (by decide +kernel) rfl
theorem jw_1624 : Cond.methodLink "LevelingNetworkLaw" 87 ⟨"LevelingNetwork", "addProfile", "(I)I"⟩ ∈ jk_WS := jk_wt7 (i := 184) (by decide +kernel) rfl
theorem jw_1625 : Cond.instanceMethod ⟨"LevelingNetwork", "addProfile", "(I)I"⟩ ∈ jk_WS := jk_wt7 (i := 185) (by decide +kernel) rfl
theorem jw_1626 : Cond.selects "LevelingNetwork" ⟨"LevelingNetwork", "addProfile", "(I)I"⟩ ⟨"LevelingNetwork", "addProfile", "(I)I"⟩ ∈ jk_WS := jk_wt7 (i := 186) (by decide +kernel) rfl
theorem jw_1627 : Cond.code ⟨"LevelingNetwork", "addProfile", "(I)I"⟩ prog_1_method_11_code 2 (Option.some ClassFile.FieldType.int) ∈ jk_WS := jk_wt7 (i := 187) (by decide +kernel) rfl
theorem jw_1628 : Cond.fieldLink "LevelingNetwork" 132 "LevelingNetwork$Kind" "PROFILE" "LLevelingNetwork$Kind;" ∈ jk_WS := jk_wt7 (i := 188) (by decide +kernel) rfl
theorem jw_1630 : Cond.methodLink "LevelingNetworkLaw" 90 ⟨"LevelingNetwork", "addStation", "(III)I"⟩ ∈ jk_WS := jk_wt7 (i := 190) (by decide +kernel) rfl
theorem jw_1631 : Cond.instanceMethod ⟨"LevelingNetwork", "addStation", "(III)I"⟩ ∈ jk_WS := jk_wt7 (i := 191) (by decide +kernel) rfl
theorem jw_1632 : Cond.selects "LevelingNetwork" ⟨"LevelingNetwork", "addStation", "(III)I"⟩ ⟨"LevelingNetwork", "addStation", "(III)I"⟩ ∈ jk_WS := jk_wt7 (i := 192) (by decide +kernel) rfl
theorem jw_1633 : Cond.code ⟨"LevelingNetwork", "addStation", "(III)I"⟩ prog_1_method_12_code 4 (Option.some ClassFile.FieldType.int) ∈ jk_WS := jk_wt7 (i := 193) (by decide +kernel) rfl
theorem jw_1634 : Cond.fieldLink "LevelingNetwork" 135 "LevelingNetwork$Kind" "STATION" "LLevelingNetwork$Kind;" ∈ jk_WS := jk_wt7 (i := 194) (by decide +kernel) rfl
theorem jw_1636 : Cond.constant "LevelingNetworkLaw" 59 (-200001 : Int32) ∈ jk_WS := jk_wt7 (i := 196) (by decide +kernel) rfl
theorem jw_1637 : Cond.constant "LevelingNetworkLaw" 62 (-200002 : Int32) ∈ jk_WS := jk_wt7 (i := 197) (by decide +kernel) rfl
theorem jw_1638 : Cond.constant "LevelingNetworkLaw" 65 (-200003 : Int32) ∈ jk_WS := jk_wt7 (i := 198) (by decide +kernel) rfl
theorem jw_1639 : Cond.constant "LevelingNetworkLaw" 144 (-200004 : Int32) ∈ jk_WS := jk_wt7 (i := 199) (by decide +kernel) rfl
theorem jw_1640 : Cond.constant "LevelingNetworkLaw" 147 (-200005 : Int32) ∈ jk_WS := jk_wt7 (i := 200) (by decide +kernel) rfl
theorem jw_1641 : Cond.methodLink "LevelingNetworkLaw" 34 ⟨"LevelingNetworkLaw", "line", "(LLevelingNetwork;IIII)I"⟩ ∈ jk_WS := jk_wt7 (i := 201) (by decide +kernel) rfl
theorem jw_1642 : Cond.static ⟨"LevelingNetworkLaw", "line", "(LLevelingNetwork;IIII)I"⟩ ∈ jk_WS := jk_wt7 (i := 202) (by decide +kernel) rfl
theorem jw_1643 : Cond.codeWith ⟨"LevelingNetworkLaw", "line", "(LLevelingNetwork;IIII)I"⟩ method_5_code 6 (Option.some ClassFile.FieldType.int) [(0, 9, 10, 57), (0, 9, 15, 60), (0, 9, 20, 63)] ∈ jk_WS := jk_wt7 (i := 203) (by decide +kernel) rfl
theorem jw_1644 : Cond.methodLink "LevelingNetworkLaw" 53 ⟨"LevelingNetwork", "addLine", "(IIII)I"⟩ ∈ jk_WS := jk_wt7 (i := 204) (by decide +kernel) rfl
theorem jw_1645 : Cond.instanceMethod ⟨"LevelingNetwork", "addLine", "(IIII)I"⟩ ∈ jk_WS := jk_wt7 (i := 205) (by decide +kernel) rfl
theorem jw_1646 : Cond.selects "LevelingNetwork" ⟨"LevelingNetwork", "addLine", "(IIII)I"⟩ ⟨"LevelingNetwork", "addLine", "(IIII)I"⟩ ∈ jk_WS := jk_wt7 (i := 206) (by decide +kernel) rfl
theorem jw_1647 : Cond.code ⟨"LevelingNetwork", "addLine", "(IIII)I"⟩ prog_1_method_5_code 5 (Option.some ClassFile.FieldType.int) ∈ jk_WS := jk_wt7 (i := 207) (by decide +kernel) rfl
theorem jw_1648 : Cond.fieldLink "LevelingNetwork" 114 "LevelingNetwork$Kind" "LINE" "LLevelingNetwork$Kind;" ∈ jk_WS := jk_wt7 (i := 208) (by decide +kernel) rfl
theorem jw_1650 : Cond.methodLink "LevelingNetworkLaw" 37 ⟨"LevelingNetwork", "lineCount", "()I"⟩ ∈ jk_WS := jk_wt7 (i := 210) (by decide +kernel) rfl
theorem jw_1651 : Cond.instanceMethod ⟨"LevelingNetwork", "lineCount", "()I"⟩ ∈ jk_WS := jk_wt7 (i := 211) (by decide +kernel) rfl
theorem jw_1652 : Cond.selects "LevelingNetwork" ⟨"LevelingNetwork", "lineCount", "()I"⟩ ⟨"LevelingNetwork", "lineCount", "()I"⟩ ∈ jk_WS := jk_wt7 (i := 212) (by decide +kernel) rfl
theorem jw_1653 : Cond.code ⟨"LevelingNetwork", "lineCount", "()I"⟩ prog_1_method_22_code 1 (Option.some ClassFile.FieldType.int) ∈ jk_WS := jk_wt7 (i := 213) (by decide +kernel) rfl
theorem jw_1654 : Cond.methodLink "LevelingNetworkLaw" 40 ⟨"java/lang/Math", "max", "(II)I"⟩ ∈ jk_WS := jk_wt7 (i := 214) (by decide +kernel) rfl
theorem jw_1655 : Cond.methodLink "LevelingNetworkLaw" 208 ⟨"LevelingNetworkLaw", "state", "(LLevelingNetwork;)I"⟩ ∈ jk_WS := jk_wt7 (i := 215) (by decide +kernel) rfl
theorem jw_1656 : Cond.static ⟨"LevelingNetworkLaw", "state", "(LLevelingNetwork;)I"⟩ ∈ jk_WS := jk_wt7 (i := 216) (by decide +kernel) rfl
theorem jw_1657 : Cond.code ⟨"LevelingNetworkLaw", "state", "(LLevelingNetwork;)I"⟩ method_7_code 4 (Option.some ClassFile.FieldType.int) ∈ jk_WS := jk_wt7 (i := 217) (by decide +kernel) rfl
theorem jw_1658 : Cond.methodLink "LevelingNetworkLaw" 151 ⟨"LevelingNetwork", "profileCount", "()I"⟩ ∈ jk_WS := jk_wt7 (i := 218) (by decide +kernel) rfl
theorem jw_1659 : Cond.instanceMethod ⟨"LevelingNetwork", "profileCount", "()I"⟩ ∈ jk_WS := jk_wt7 (i := 219) (by decide +kernel) rfl
theorem jw_1660 : Cond.selects "LevelingNetwork" ⟨"LevelingNetwork", "profileCount", "()I"⟩ ⟨"LevelingNetwork", "profileCount", "()I"⟩ ∈ jk_WS := jk_wt7 (i := 220) (by decide +kernel) rfl
theorem jw_1661 : Cond.code ⟨"LevelingNetwork", "profileCount", "()I"⟩ prog_1_method_44_code 1 (Option.some ClassFile.FieldType.int) ∈ jk_WS := jk_wt7 (i := 221) (by decide +kernel) rfl
theorem jw_1662 : Cond.methodLink "LevelingNetworkLaw" 157 ⟨"LevelingNetwork", "isFixed", "(I)Z"⟩ ∈ jk_WS := jk_wt7 (i := 222) (by decide +kernel) rfl
theorem jw_1663 : Cond.instanceMethod ⟨"LevelingNetwork", "isFixed", "(I)Z"⟩ ∈ jk_WS := jk_wt7 (i := 223) (by decide +kernel) rfl
theorem jw_1664 : Cond.selects "LevelingNetwork" ⟨"LevelingNetwork", "isFixed", "(I)Z"⟩ ⟨"LevelingNetwork", "isFixed", "(I)Z"⟩ ∈ jk_WS := jk_wt7 (i := 224) (by decide +kernel) rfl
theorem jw_1665 : Cond.code ⟨"LevelingNetwork", "isFixed", "(I)Z"⟩ prog_1_method_15_code 2 (Option.some ClassFile.FieldType.boolean) ∈ jk_WS := jk_wt7 (i := 225) (by decide +kernel) rfl
theorem jw_1666 : Cond.methodLink "LevelingNetworkLaw" 161 ⟨"LevelingNetwork", "firstOf", "(I)I"⟩ ∈ jk_WS := jk_wt7 (i := 226) (by decide +kernel) rfl
theorem jw_1667 : Cond.instanceMethod ⟨"LevelingNetwork", "firstOf", "(I)I"⟩ ∈ jk_WS := jk_wt7 (i := 227) (by decide +kernel) rfl
theorem jw_1668 : Cond.selects "LevelingNetwork" ⟨"LevelingNetwork", "firstOf", "(I)I"⟩ ⟨"LevelingNetwork", "firstOf", "(I)I"⟩ ∈ jk_WS := jk_wt7 (i := 228) (by decide +kernel) rfl
theorem jw_1669 : Cond.code ⟨"LevelingNetwork", "firstOf", "(I)I"⟩ prog_1_method_23_code 2 (Option.some ClassFile.FieldType.int) ∈ jk_WS := jk_wt7 (i := 229) (by decide +kernel) rfl
theorem jw_1670 : Cond.methodLink "LevelingNetworkLaw" 164 ⟨"LevelingNetwork", "secondOf", "(I)I"⟩ ∈ jk_WS := jk_wt7 (i := 230) (by decide +kernel) rfl
theorem jw_1671 : Cond.instanceMethod ⟨"LevelingNetwork", "secondOf", "(I)I"⟩ ∈ jk_WS := jk_wt7 (i := 231) (by decide +kernel) rfl
theorem jw_1672 : Cond.selects "LevelingNetwork" ⟨"LevelingNetwork", "secondOf", "(I)I"⟩ ⟨"LevelingNetwork", "secondOf", "(I)I"⟩ ∈ jk_WS := jk_wt7 (i := 232) (by decide +kernel) rfl
theorem jw_1673 : Cond.code ⟨"LevelingNetwork", "secondOf", "(I)I"⟩ prog_1_method_24_code 2 (Option.some ClassFile.FieldType.int) ∈ jk_WS := jk_wt7 (i := 233) (by decide +kernel) rfl
theorem jw_1674 : Cond.methodLink "LevelingNetworkLaw" 167 ⟨"LevelingNetwork", "lengthOf", "(I)I"⟩ ∈ jk_WS := jk_wt7 (i := 234) (by decide +kernel) rfl
theorem jw_1675 : Cond.instanceMethod ⟨"LevelingNetwork", "lengthOf", "(I)I"⟩ ∈ jk_WS := jk_wt7 (i := 235) (by decide +kernel) rfl
theorem jw_1676 : Cond.selects "LevelingNetwork" ⟨"LevelingNetwork", "lengthOf", "(I)I"⟩ ⟨"LevelingNetwork", "lengthOf", "(I)I"⟩ ∈ jk_WS := jk_wt7 (i := 236) (by decide +kernel) rfl
theorem jw_1677 : Cond.code ⟨"LevelingNetwork", "lengthOf", "(I)I"⟩ prog_1_method_25_code 2 (Option.some ClassFile.FieldType.int) ∈ jk_WS := jk_wt7 (i := 237) (by decide +kernel) rfl
theorem jw_1678 : Cond.methodLink "LevelingNetworkLaw" 176 ⟨"LevelingNetwork", "isExcluded", "(I)Z"⟩ ∈ jk_WS := jk_wt7 (i := 238) (by decide +kernel) rfl
theorem jw_1679 : Cond.instanceMethod ⟨"LevelingNetwork", "isExcluded", "(I)Z"⟩ ∈ jk_WS := jk_wt7 (i := 239) (by decide +kernel) rfl
theorem jw_1680 : Cond.selects "LevelingNetwork" ⟨"LevelingNetwork", "isExcluded", "(I)Z"⟩ ⟨"LevelingNetwork", "isExcluded", "(I)Z"⟩ ∈ jk_WS := jk_wt8 (i := 0) (by decide +kernel) rfl
theorem jw_1681 : Cond.code ⟨"LevelingNetwork", "isExcluded", "(I)Z"⟩ prog_1_method_29_code 2 (Option.some ClassFile.FieldType.boolean) ∈ jk_WS := jk_wt8 (i := 1) (by decide +kernel) rfl
theorem jw_1682 : Cond.methodLink "LevelingNetworkLaw" 179 ⟨"LevelingNetwork", "stationCount", "(I)I"⟩ ∈ jk_WS := jk_wt8 (i := 2) (by decide +kernel) rfl
theorem jw_1683 : Cond.instanceMethod ⟨"LevelingNetwork", "stationCount", "(I)I"⟩ ∈ jk_WS := jk_wt8 (i := 3) (by decide +kernel) rfl
theorem jw_1684 : Cond.selects "LevelingNetwork" ⟨"LevelingNetwork", "stationCount", "(I)I"⟩ ⟨"LevelingNetwork", "stationCount", "(I)I"⟩ ∈ jk_WS := jk_wt8 (i := 4) (by decide +kernel) rfl
theorem jw_1685 : Cond.code ⟨"LevelingNetwork", "stationCount", "(I)I"⟩ prog_1_method_45_code 2 (Option.some ClassFile.FieldType.int) ∈ jk_WS := jk_wt8 (i := 5) (by decide +kernel) rfl
theorem jw_1686 : Cond.methodLink "LevelingNetworkLaw" 312 ⟨"LevelingNetworkLaw", "isLine", "(LLevelingNetwork;ILjava/lang/String;)Z"⟩ ∈ jk_WS := jk_wt8 (i := 6) (by decide +kernel) rfl
theorem jw_1687 : Cond.static ⟨"LevelingNetworkLaw", "isLine", "(LLevelingNetwork;ILjava/lang/String;)Z"⟩ ∈ jk_WS := jk_wt8 (i := 7) (by decide +kernel) rfl
theorem jw_1688 : Cond.code ⟨"LevelingNetworkLaw", "isLine", "(LLevelingNetwork;ILjava/lang/String;)Z"⟩ method_15_code 4 (Option.some ClassFile.FieldType.boolean) ∈ jk_WS := jk_wt8 (i := 8) (by decide +kernel) rfl
theorem jw_1689 : Cond.methodLink "LevelingNetworkLaw" 344 ⟨"LevelingNetwork", "outputAt", "(I)C"⟩ ∈ jk_WS := jk_wt8 (i := 9) (by decide +kernel) rfl
theorem jw_1690 : Cond.instanceMethod ⟨"LevelingNetwork", "outputAt", "(I)C"⟩ ∈ jk_WS := jk_wt8 (i := 10) (by decide +kernel) rfl
theorem jw_1691 : Cond.selects "LevelingNetwork" ⟨"LevelingNetwork", "outputAt", "(I)C"⟩ ⟨"LevelingNetwork", "outputAt", "(I)C"⟩ ∈ jk_WS := jk_wt8 (i := 11) (by decide +kernel) rfl
theorem jw_1692 : Cond.code ⟨"LevelingNetwork", "outputAt", "(I)C"⟩ prog_1_method_57_code 2 (Option.some ClassFile.FieldType.char) ∈ jk_WS := jk_wt8 (i := 12) (by decide +kernel) rfl
theorem jw_1694 : Cond.methodLink "LevelingNetwork" 375 ⟨"java/lang/StringBuilder", "charAt", "(I)C"⟩ ∈ jk_WS := jk_wt8 (i := 14) (by decide +kernel) rfl
theorem jw_1695 : Cond.instanceMethod ⟨"java/lang/StringBuilder", "charAt", "(I)C"⟩ ∈ jk_WS := jk_wt8 (i := 15) (by decide +kernel) rfl
theorem jw_1696 : Cond.selects "java/lang/StringBuilder" ⟨"java/lang/StringBuilder", "charAt", "(I)C"⟩ ⟨"java/lang/StringBuilder", "charAt", "(I)C"⟩ ∈ jk_WS := jk_wt8 (i := 16) (by decide +kernel) rfl
theorem jw_1697 : Cond.code ⟨"java/lang/StringBuilder", "charAt", "(I)C"⟩ prog_34_method_88_code 2 (Option.some ClassFile.FieldType.char) ∈ jk_WS := jk_wt8 (i := 17) (by decide +kernel) rfl
theorem jw_1698 : Cond.methodLink "java/lang/StringBuilder" 329 ⟨"java/lang/AbstractStringBuilder", "charAt", "(I)C"⟩ ∈ jk_WS := jk_wt8 (i := 18) (by decide +kernel) rfl
theorem jw_1699 : Cond.instanceMethod ⟨"java/lang/AbstractStringBuilder", "charAt", "(I)C"⟩ ∈ jk_WS := jk_wt8 (i := 19) (by decide +kernel) rfl
theorem jw_1700 : Cond.code ⟨"java/lang/AbstractStringBuilder", "charAt", "(I)C"⟩ prog_17_method_14_code 5 (Option.some ClassFile.FieldType.char) ∈ jk_WS := jk_wt8 (i := 20) (by decide +kernel) rfl
theorem jw_1701 : Cond.methodLink "java/lang/AbstractStringBuilder" 138 ⟨"java/lang/Math", "min", "(II)I"⟩ ∈ jk_WS := jk_wt8 (i := 21) (by decide +kernel) rfl
theorem jw_1702 : Cond.methodLink "java/lang/AbstractStringBuilder" 144 ⟨"java/lang/String", "checkIndex", "(II)V"⟩ ∈ jk_WS := jk_wt8 (i := 22) (by decide +kernel) rfl
theorem jw_1703 : Cond.methodLink "java/lang/AbstractStringBuilder" 148 ⟨"java/lang/StringUTF16", "getChar", "([BI)C"⟩ ∈ jk_WS := jk_wt8 (i := 23) (by decide +kernel) rfl
theorem jw_1704 : Cond.methodLink "LevelingNetworkLaw" 230 ⟨"LevelingNetworkLaw", "runs", "(LLevelingNetwork;)I"⟩ ∈ jk_WS := jk_wt8 (i := 24) (by decide +kernel) rfl
theorem jw_1705 : Cond.static ⟨"LevelingNetworkLaw", "runs", "(LLevelingNetwork;)I"⟩ ∈ jk_WS := jk_wt8 (i := 25) (by decide +kernel) rfl
theorem jw_1706 : Cond.codeWith ⟨"LevelingNetworkLaw", "runs", "(LLevelingNetwork;)I"⟩ method_16_code 2 (Option.some ClassFile.FieldType.int) [(0, 4, 5, 60), (0, 4, 8, 63)] ∈ jk_WS := jk_wt8 (i := 26) (by decide +kernel) rfl
theorem jw_1707 : Cond.methodLink "LevelingNetworkLaw" 240 ⟨"LevelingNetworkLaw", "fails", "(LLevelingNetwork;Ljava/lang/String;I)Z"⟩ ∈ jk_WS := jk_wt8 (i := 27) (by decide +kernel) rfl
theorem jw_1708 : Cond.static ⟨"LevelingNetworkLaw", "fails", "(LLevelingNetwork;Ljava/lang/String;I)Z"⟩ ∈ jk_WS := jk_wt8 (i := 28) (by decide +kernel) rfl
theorem jw_1709 : Cond.code ⟨"LevelingNetworkLaw", "fails", "(LLevelingNetwork;Ljava/lang/String;I)Z"⟩ method_17_code 3 (Option.some ClassFile.FieldType.boolean) ∈ jk_WS := jk_wt8 (i := 29) (by decide +kernel) rfl
theorem jw_1710 : Cond.methodLink "LevelingNetworkLaw" 347 ⟨"LevelingNetwork", "errorPosition", "()I"⟩ ∈ jk_WS := jk_wt8 (i := 30) (by decide +kernel) rfl
theorem jw_1711 : Cond.instanceMethod ⟨"LevelingNetwork", "errorPosition", "()I"⟩ ∈ jk_WS := jk_wt8 (i := 31) (by decide +kernel) rfl
theorem jw_1712 : Cond.selects "LevelingNetwork" ⟨"LevelingNetwork", "errorPosition", "()I"⟩ ⟨"LevelingNetwork", "errorPosition", "()I"⟩ ∈ jk_WS := jk_wt8 (i := 32) (by decide +kernel) rfl
theorem jw_1713 : Cond.code ⟨"LevelingNetwork", "errorPosition", "()I"⟩ prog_1_method_60_code 1 (Option.some ClassFile.FieldType.int) ∈ jk_WS := jk_wt8 (i := 33) (by decide +kernel) rfl
theorem jw_1715 : Cond.methodLink "LevelingNetworkLaw" 324 ⟨"java/lang/Math", "floorDiv", "(II)I"⟩ ∈ jk_WS := jk_wt8 (i := 35) (by decide +kernel) rfl
theorem jw_1716 : Cond.classLink "LevelingNetworkLaw" 277 "java/lang/StringBuilder" ∈ jk_WS := jk_wt8 (i := 36) (by decide +kernel) rfl
theorem jw_1717 : Cond.methodLink "LevelingNetworkLaw" 279 ⟨"java/lang/StringBuilder", "<init>", "()V"⟩ ∈ jk_WS := jk_wt8 (i := 37) (by decide +kernel) rfl
theorem jw_1718 : Cond.methodLink "LevelingNetworkLaw" 282 ⟨"java/lang/StringBuilder", "append", "(Ljava/lang/String;)Ljava/lang/StringBuilder;"⟩ ∈ jk_WS := jk_wt8 (i := 38) (by decide +kernel) rfl
theorem jw_1719 : Cond.methodLink "LevelingNetworkLaw" 286 ⟨"java/lang/StringBuilder", "append", "(I)Ljava/lang/StringBuilder;"⟩ ∈ jk_WS := jk_wt8 (i := 39) (by decide +kernel) rfl
theorem jw_1720 : Cond.methodLink "LevelingNetworkLaw" 291 ⟨"java/lang/StringBuilder", "toString", "()Ljava/lang/String;"⟩ ∈ jk_WS := jk_wt8 (i := 40) (by decide +kernel) rfl
theorem jw_1722 : Cond.constant "LevelingNetworkLaw" 221 (-150000 : Int32) ∈ jk_WS := jk_wt8 (i := 42) (by decide +kernel) rfl
theorem jw_1745 : Cond.sameMethod "java/lang/Throwable" "java/lang/Throwable" "fillInStackTrace" "(I)Ljava/lang/Throwable;" ∈ jk_WS := jk_wt8 (i := 65) (by decide +kernel) rfl
theorem jw_1746 : Cond.sameMethod "java/lang/AbstractStringBuilder" "java/lang/AbstractStringBuilder" "setLength" "(I)V" ∈ jk_WS := jk_wt8 (i := 66) (by decide +kernel) rfl
theorem jw_1747 : Cond.sameMethod "java/lang/AbstractStringBuilder" "java/lang/AbstractStringBuilder" "append" "(Ljava/lang/String;)Ljava/lang/AbstractStringBuilder;" ∈ jk_WS := jk_wt8 (i := 67) (by decide +kernel) rfl
theorem jw_1748 : Cond.sameMethod "java/lang/AbstractStringBuilder" "java/lang/AbstractStringBuilder" "appendNull" "()Ljava/lang/AbstractStringBuilder;" ∈ jk_WS := jk_wt8 (i := 68) (by decide +kernel) rfl
theorem jw_1749 : Cond.sameMethod "java/lang/AbstractStringBuilder" "java/lang/AbstractStringBuilder" "ensureCapacityInternal" "(I)V" ∈ jk_WS := jk_wt8 (i := 69) (by decide +kernel) rfl
theorem jw_1750 : Cond.sameMethod "java/lang/AbstractStringBuilder" "java/lang/AbstractStringBuilder" "newCapacity" "(I)I" ∈ jk_WS := jk_wt8 (i := 70) (by decide +kernel) rfl
theorem jw_1751 : Cond.sameMethod "java/lang/AbstractStringBuilder" "java/lang/AbstractStringBuilder" "putStringAt" "(ILjava/lang/String;)V" ∈ jk_WS := jk_wt8 (i := 71) (by decide +kernel) rfl
theorem jw_1752 : Cond.sameMethod "java/lang/AbstractStringBuilder" "java/lang/AbstractStringBuilder" "inflateIfNeededFor" "(Ljava/lang/String;)V" ∈ jk_WS := jk_wt8 (i := 72) (by decide +kernel) rfl
theorem jw_1753 : Cond.sameMethod "java/lang/AbstractStringBuilder" "java/lang/AbstractStringBuilder" "inflate" "()V" ∈ jk_WS := jk_wt8 (i := 73) (by decide +kernel) rfl
theorem jw_1754 : Cond.sameMethod "java/lang/AbstractStringBuilder" "java/lang/AbstractStringBuilder" "append" "(I)Ljava/lang/AbstractStringBuilder;" ∈ jk_WS := jk_wt8 (i := 74) (by decide +kernel) rfl
theorem jw_1755 : Cond.sameMethod "java/lang/AbstractStringBuilder" "java/lang/AbstractStringBuilder" "append" "(C)Ljava/lang/AbstractStringBuilder;" ∈ jk_WS := jk_wt8 (i := 75) (by decide +kernel) rfl
theorem jw_1756 : Cond.selects "java/lang/StringBuilder" ⟨"java/lang/StringBuilder", "length", "()I"⟩ ⟨"java/lang/StringBuilder", "length", "()I"⟩ ∈ jk_WS := jk_wt8 (i := 76) (by decide +kernel) rfl
theorem jw_1757 : Cond.sameMethod "java/lang/AbstractStringBuilder" "java/lang/AbstractStringBuilder" "charAt" "(I)C" ∈ jk_WS := jk_wt8 (i := 77) (by decide +kernel) rfl
theorem jw_1758 : Cond.castable "java/lang/ArrayIndexOutOfBoundsException" "java/lang/IndexOutOfBoundsException" ∈ jk_WS := jk_wt8 (i := 78) (by decide +kernel) rfl
theorem jw_1759 : Cond.castable "java/lang/StringIndexOutOfBoundsException" "java/lang/IndexOutOfBoundsException" ∈ jk_WS := jk_wt8 (i := 79) (by decide +kernel) rfl
theorem jw_1760 : Cond.castable "LevelingNetwork" "java/lang/Object" ∈ jk_WS := jk_wt8 (i := 80) (by decide +kernel) rfl
theorem jw_1761 : Cond.castable "LevelingNetwork$Survey" "java/lang/Object" ∈ jk_WS := jk_wt8 (i := 81) (by decide +kernel) rfl
theorem jw_1762 : Cond.castable "LevelingNetwork$History" "java/lang/Object" ∈ jk_WS := jk_wt8 (i := 82) (by decide +kernel) rfl
theorem jw_1763 : Cond.castable "LevelingNetwork$Forest" "java/lang/Object" ∈ jk_WS := jk_wt8 (i := 83) (by decide +kernel) rfl
theorem jw_1764 : Cond.castable "LevelingNetwork$Way" "java/lang/Object" ∈ jk_WS := jk_wt8 (i := 84) (by decide +kernel) rfl
theorem jw_1765 : Cond.castable "LevelingNetwork$Sharing" "java/lang/Object" ∈ jk_WS := jk_wt8 (i := 85) (by decide +kernel) rfl
theorem jw_1766 : Cond.castable "LevelingNetwork$Heights" "java/lang/Object" ∈ jk_WS := jk_wt8 (i := 86) (by decide +kernel) rfl
theorem jw_1767 : Cond.castable "LevelingNetwork$Bank" "java/lang/Object" ∈ jk_WS := jk_wt8 (i := 87) (by decide +kernel) rfl
theorem jw_1768 : Cond.castable "LevelingNetwork$Changes" "java/lang/Object" ∈ jk_WS := jk_wt8 (i := 88) (by decide +kernel) rfl
theorem jw_1769 : Cond.castable "LevelingNetwork$Script" "java/lang/Object" ∈ jk_WS := jk_wt8 (i := 89) (by decide +kernel) rfl
theorem jw_1770 : Cond.castable "java/lang/StringBuilder" "java/lang/Object" ∈ jk_WS := jk_wt8 (i := 90) (by decide +kernel) rfl
theorem jw_1771 : Cond.castable "java/lang/ArrayIndexOutOfBoundsException" "java/lang/Object" ∈ jk_WS := jk_wt8 (i := 91) (by decide +kernel) rfl
theorem jw_1772 : Cond.castable "LevelingNetwork$Kind" "java/lang/Object" ∈ jk_WS := jk_wt8 (i := 92) (by decide +kernel) rfl
theorem jw_1773 : Cond.castable "LevelingNetwork$Trouble" "java/lang/Object" ∈ jk_WS := jk_wt8 (i := 93) (by decide +kernel) rfl
theorem jw_1774 : Cond.castable "java/lang/IndexOutOfBoundsException" "java/lang/Object" ∈ jk_WS := jk_wt8 (i := 94) (by decide +kernel) rfl
theorem jw_1775 : Cond.castable "java/lang/IllegalArgumentException" "java/lang/Object" ∈ jk_WS := jk_wt8 (i := 95) (by decide +kernel) rfl
theorem jw_1776 : Cond.castable "java/lang/IllegalStateException" "java/lang/Object" ∈ jk_WS := jk_wt8 (i := 96) (by decide +kernel) rfl
theorem jw_1777 : Cond.castable "java/util/NoSuchElementException" "java/lang/Object" ∈ jk_WS := jk_wt8 (i := 97) (by decide +kernel) rfl
theorem jw_1778 : Cond.castable "java/lang/UnsupportedOperationException" "java/lang/Object" ∈ jk_WS := jk_wt8 (i := 98) (by decide +kernel) rfl
theorem jw_1779 : Cond.castable "java/lang/String" "java/lang/Object" ∈ jk_WS := jk_wt8 (i := 99) (by decide +kernel) rfl
theorem jw_1780 : Cond.castable "java/lang/StringIndexOutOfBoundsException" "java/lang/Object" ∈ jk_WS := jk_wt8 (i := 100) (by decide +kernel) rfl
theorem jw_1781 : Cond.castable "java/lang/ArithmeticException" "java/lang/Object" ∈ jk_WS := jk_wt8 (i := 101) (by decide +kernel) rfl
theorem jw_1782 : Cond.castable "java/lang/Throwable" "java/lang/Object" ∈ jk_WS := jk_wt8 (i := 102) (by decide +kernel) rfl
theorem jw_1783 : Cond.fieldLink "java/lang/Enum" 7 "java/lang/Enum" "ordinal" "I" ∈ jk_WS := jk_wt8 (i := 103) (by decide +kernel) rfl
theorem jw_1784 : Cond.fieldLink "LevelingNetwork$Script" 59 "LevelingNetwork$Kind" "word" "Ljava/lang/String;" ∈ jk_WS := jk_wt8 (i := 104) (by decide +kernel) rfl
theorem jw_1785 : Cond.fieldLink "LevelingNetwork$Script" 48 "LevelingNetwork$Kind" "form" "Ljava/lang/String;" ∈ jk_WS := jk_wt8 (i := 105) (by decide +kernel) rfl
theorem jw_s0 : Cond.selects "LevelingNetwork" ⟨"LevelingNetwork", "change", "(LLevelingNetwork$Kind;IIII)I"⟩ ⟨"LevelingNetwork", "change", "(LLevelingNetwork$Kind;IIII)I"⟩ ∈ jk_WS := jk_wts (i := 0) (by decide +kernel) rfl
theorem jw_s1 : Cond.selects "LevelingNetwork$Changes" ⟨"LevelingNetwork$Changes", "troubleWithFixing", "(II)LLevelingNetwork$Trouble;"⟩ ⟨"LevelingNetwork$Changes", "troubleWithFixing", "(II)LLevelingNetwork$Trouble;"⟩ ∈ jk_WS := jk_wts (i := 1) (by decide +kernel) rfl
theorem jw_s2 : Cond.selects "LevelingNetwork$Changes" ⟨"LevelingNetwork$Changes", "troubleWithFreeing", "(I)LLevelingNetwork$Trouble;"⟩ ⟨"LevelingNetwork$Changes", "troubleWithFreeing", "(I)LLevelingNetwork$Trouble;"⟩ ∈ jk_WS := jk_wts (i := 2) (by decide +kernel) rfl
theorem jw_s3 : Cond.selects "LevelingNetwork$Changes" ⟨"LevelingNetwork$Changes", "troubleWithLine", "(IIII)LLevelingNetwork$Trouble;"⟩ ⟨"LevelingNetwork$Changes", "troubleWithLine", "(IIII)LLevelingNetwork$Trouble;"⟩ ∈ jk_WS := jk_wts (i := 3) (by decide +kernel) rfl
theorem jw_s4 : Cond.selects "LevelingNetwork$Changes" ⟨"LevelingNetwork$Changes", "troubleWithBackwardRun", "(II)LLevelingNetwork$Trouble;"⟩ ⟨"LevelingNetwork$Changes", "troubleWithBackwardRun", "(II)LLevelingNetwork$Trouble;"⟩ ∈ jk_WS := jk_wts (i := 4) (by decide +kernel) rfl
theorem jw_s5 : Cond.selects "LevelingNetwork$Changes" ⟨"LevelingNetwork$Changes", "troubleWithExclusion", "(IZ)LLevelingNetwork$Trouble;"⟩ ⟨"LevelingNetwork$Changes", "troubleWithExclusion", "(IZ)LLevelingNetwork$Trouble;"⟩ ∈ jk_WS := jk_wts (i := 5) (by decide +kernel) rfl
theorem jw_s6 : Cond.selects "LevelingNetwork$Changes" ⟨"LevelingNetwork$Changes", "troubleWithSharing", "(I)LLevelingNetwork$Trouble;"⟩ ⟨"LevelingNetwork$Changes", "troubleWithSharing", "(I)LLevelingNetwork$Trouble;"⟩ ∈ jk_WS := jk_wts (i := 6) (by decide +kernel) rfl
theorem jw_s7 : Cond.selects "LevelingNetwork$Forest" ⟨"LevelingNetwork$Forest", "putInOrder", "()V"⟩ ⟨"LevelingNetwork$Forest", "putInOrder", "()V"⟩ ∈ jk_WS := jk_wts (i := 7) (by decide +kernel) rfl
theorem jw_s8 : Cond.selects "LevelingNetwork$Forest" ⟨"LevelingNetwork$Forest", "consider", "(I)V"⟩ ⟨"LevelingNetwork$Forest", "consider", "(I)V"⟩ ∈ jk_WS := jk_wts (i := 8) (by decide +kernel) rfl
theorem jw_s9 : Cond.selects "LevelingNetwork$Way" ⟨"LevelingNetwork$Way", "add", "(II)I"⟩ ⟨"LevelingNetwork$Way", "add", "(II)I"⟩ ∈ jk_WS := jk_wts (i := 9) (by decide +kernel) rfl
theorem jw_s10 : Cond.selects "LevelingNetwork$Way" ⟨"LevelingNetwork$Way", "leadsOn", "(II)Z"⟩ ⟨"LevelingNetwork$Way", "leadsOn", "(II)Z"⟩ ∈ jk_WS := jk_wts (i := 10) (by decide +kernel) rfl
theorem jw_s11 : Cond.selects "LevelingNetwork$Changes" ⟨"LevelingNetwork$Changes", "troubleWithProfile", "(I)LLevelingNetwork$Trouble;"⟩ ⟨"LevelingNetwork$Changes", "troubleWithProfile", "(I)LLevelingNetwork$Trouble;"⟩ ∈ jk_WS := jk_wts (i := 11) (by decide +kernel) rfl
theorem jw_s12 : Cond.selects "LevelingNetwork$Changes" ⟨"LevelingNetwork$Changes", "troubleWithStation", "(III)LLevelingNetwork$Trouble;"⟩ ⟨"LevelingNetwork$Changes", "troubleWithStation", "(III)LLevelingNetwork$Trouble;"⟩ ∈ jk_WS := jk_wts (i := 12) (by decide +kernel) rfl
theorem jw_s13 : Cond.selects "java/lang/Throwable" ⟨"java/lang/Throwable", "fillInStackTrace", "(I)Ljava/lang/Throwable;"⟩ ⟨"java/lang/Throwable", "fillInStackTrace", "(I)Ljava/lang/Throwable;"⟩ ∈ jk_WS := jk_wts (i := 13) (by decide +kernel) rfl
theorem jw_s14 : Cond.selects "LevelingNetwork$Survey" ⟨"LevelingNetwork$Survey", "copyBenchmarks", "(LLevelingNetwork$Survey;)V"⟩ ⟨"LevelingNetwork$Survey", "copyBenchmarks", "(LLevelingNetwork$Survey;)V"⟩ ∈ jk_WS := jk_wts (i := 14) (by decide +kernel) rfl
theorem jw_s15 : Cond.selects "LevelingNetwork$Survey" ⟨"LevelingNetwork$Survey", "copyLines", "(LLevelingNetwork$Survey;)V"⟩ ⟨"LevelingNetwork$Survey", "copyLines", "(LLevelingNetwork$Survey;)V"⟩ ∈ jk_WS := jk_wts (i := 15) (by decide +kernel) rfl
theorem jw_s16 : Cond.selects "LevelingNetwork$Survey" ⟨"LevelingNetwork$Survey", "copyProfiles", "(LLevelingNetwork$Survey;)V"⟩ ⟨"LevelingNetwork$Survey", "copyProfiles", "(LLevelingNetwork$Survey;)V"⟩ ∈ jk_WS := jk_wts (i := 16) (by decide +kernel) rfl
theorem jw_s17 : Cond.selects "LevelingNetwork$Changes" ⟨"LevelingNetwork$Changes", "putBenchmark", "()I"⟩ ⟨"LevelingNetwork$Changes", "putBenchmark", "()I"⟩ ∈ jk_WS := jk_wts (i := 17) (by decide +kernel) rfl
theorem jw_s18 : Cond.selects "LevelingNetwork$Changes" ⟨"LevelingNetwork$Changes", "putLine", "(IIII)I"⟩ ⟨"LevelingNetwork$Changes", "putLine", "(IIII)I"⟩ ∈ jk_WS := jk_wts (i := 18) (by decide +kernel) rfl
theorem jw_s19 : Cond.selects "LevelingNetwork$Changes" ⟨"LevelingNetwork$Changes", "shareOut", "(I)I"⟩ ⟨"LevelingNetwork$Changes", "shareOut", "(I)I"⟩ ∈ jk_WS := jk_wts (i := 19) (by decide +kernel) rfl
theorem jw_s20 : Cond.selects "LevelingNetwork$Sharing" ⟨"LevelingNetwork$Sharing", "giveOut", "(I)V"⟩ ⟨"LevelingNetwork$Sharing", "giveOut", "(I)V"⟩ ∈ jk_WS := jk_wts (i := 20) (by decide +kernel) rfl
theorem jw_s21 : Cond.selects "LevelingNetwork$Changes" ⟨"LevelingNetwork$Changes", "clearCorrections", "()I"⟩ ⟨"LevelingNetwork$Changes", "clearCorrections", "()I"⟩ ∈ jk_WS := jk_wts (i := 21) (by decide +kernel) rfl
theorem jw_s22 : Cond.selects "LevelingNetwork$Changes" ⟨"LevelingNetwork$Changes", "putProfile", "(I)I"⟩ ⟨"LevelingNetwork$Changes", "putProfile", "(I)I"⟩ ∈ jk_WS := jk_wts (i := 22) (by decide +kernel) rfl
theorem jw_s23 : Cond.selects "LevelingNetwork$Changes" ⟨"LevelingNetwork$Changes", "putStation", "(III)I"⟩ ⟨"LevelingNetwork$Changes", "putStation", "(III)I"⟩ ∈ jk_WS := jk_wts (i := 23) (by decide +kernel) rfl
theorem jw_s24 : Cond.selects "LevelingNetwork$Changes" ⟨"LevelingNetwork$Changes", "putWater", "(I)I"⟩ ⟨"LevelingNetwork$Changes", "putWater", "(I)I"⟩ ∈ jk_WS := jk_wts (i := 24) (by decide +kernel) rfl
theorem jw_s25 : Cond.selects "LevelingNetwork" ⟨"LevelingNetwork", "requireBenchmark", "(I)V"⟩ ⟨"LevelingNetwork", "requireBenchmark", "(I)V"⟩ ∈ jk_WS := jk_wts (i := 25) (by decide +kernel) rfl
theorem jw_s26 : Cond.selects "LevelingNetwork" ⟨"LevelingNetwork", "requireHeight", "(I)V"⟩ ⟨"LevelingNetwork", "requireHeight", "(I)V"⟩ ∈ jk_WS := jk_wts (i := 26) (by decide +kernel) rfl
theorem jw_s27 : Cond.selects "LevelingNetwork$Heights" ⟨"LevelingNetwork$Heights", "passOn", "(II)V"⟩ ⟨"LevelingNetwork$Heights", "passOn", "(II)V"⟩ ∈ jk_WS := jk_wts (i := 27) (by decide +kernel) rfl
theorem jw_s28 : Cond.selects "LevelingNetwork$Heights" ⟨"LevelingNetwork$Heights", "passOnOnce", "()Z"⟩ ⟨"LevelingNetwork$Heights", "passOnOnce", "()Z"⟩ ∈ jk_WS := jk_wts (i := 28) (by decide +kernel) rfl
theorem jw_s29 : Cond.selects "LevelingNetwork$Heights" ⟨"LevelingNetwork$Heights", "benchmarksAheadOf", "(I)I"⟩ ⟨"LevelingNetwork$Heights", "benchmarksAheadOf", "(I)I"⟩ ∈ jk_WS := jk_wts (i := 29) (by decide +kernel) rfl
theorem jw_s30 : Cond.selects "LevelingNetwork" ⟨"LevelingNetwork", "requireLine", "(I)V"⟩ ⟨"LevelingNetwork", "requireLine", "(I)V"⟩ ∈ jk_WS := jk_wts (i := 30) (by decide +kernel) rfl
theorem jw_s31 : Cond.selects "LevelingNetwork$Survey" ⟨"LevelingNetwork$Survey", "linesAheadOf", "(I)I"⟩ ⟨"LevelingNetwork$Survey", "linesAheadOf", "(I)I"⟩ ∈ jk_WS := jk_wts (i := 31) (by decide +kernel) rfl
theorem jw_s32 : Cond.selects "LevelingNetwork$Forest" ⟨"LevelingNetwork$Forest", "growReached", "()I"⟩ ⟨"LevelingNetwork$Forest", "growReached", "()I"⟩ ∈ jk_WS := jk_wts (i := 32) (by decide +kernel) rfl
theorem jw_s33 : Cond.selects "LevelingNetwork$Forest" ⟨"LevelingNetwork$Forest", "firstLineOutOfReached", "()I"⟩ ⟨"LevelingNetwork$Forest", "firstLineOutOfReached", "()I"⟩ ∈ jk_WS := jk_wts (i := 33) (by decide +kernel) rfl
theorem jw_s34 : Cond.selects "LevelingNetwork" ⟨"LevelingNetwork", "traceLoop", "(I)V"⟩ ⟨"LevelingNetwork", "traceLoop", "(I)V"⟩ ∈ jk_WS := jk_wts (i := 34) (by decide +kernel) rfl
theorem jw_s35 : Cond.selects "LevelingNetwork" ⟨"LevelingNetwork", "requireProfile", "(I)V"⟩ ⟨"LevelingNetwork", "requireProfile", "(I)V"⟩ ∈ jk_WS := jk_wts (i := 35) (by decide +kernel) rfl
theorem jw_s36 : Cond.selects "LevelingNetwork$Bank" ⟨"LevelingNetwork$Bank", "firstColumn", "(I)I"⟩ ⟨"LevelingNetwork$Bank", "firstColumn", "(I)I"⟩ ∈ jk_WS := jk_wts (i := 36) (by decide +kernel) rfl
theorem jw_s37 : Cond.selects "LevelingNetwork$Bank" ⟨"LevelingNetwork$Bank", "lastColumn", "(I)I"⟩ ⟨"LevelingNetwork$Bank", "lastColumn", "(I)I"⟩ ∈ jk_WS := jk_wts (i := 37) (by decide +kernel) rfl
theorem jw_s38 : Cond.selects "LevelingNetwork" ⟨"LevelingNetwork", "surfaceAt", "(I)I"⟩ ⟨"LevelingNetwork", "surfaceAt", "(I)I"⟩ ∈ jk_WS := jk_wts (i := 38) (by decide +kernel) rfl
theorem jw_s39 : Cond.selects "LevelingNetwork" ⟨"LevelingNetwork", "heightsAgree", "()Z"⟩ ⟨"LevelingNetwork", "heightsAgree", "()Z"⟩ ∈ jk_WS := jk_wts (i := 39) (by decide +kernel) rfl
theorem jw_s40 : Cond.selects "LevelingNetwork" ⟨"LevelingNetwork", "misclosuresAgree", "()Z"⟩ ⟨"LevelingNetwork", "misclosuresAgree", "()Z"⟩ ∈ jk_WS := jk_wts (i := 40) (by decide +kernel) rfl
theorem jw_s41 : Cond.selects "LevelingNetwork" ⟨"LevelingNetwork", "wetColumnsAgree", "()Z"⟩ ⟨"LevelingNetwork", "wetColumnsAgree", "()Z"⟩ ∈ jk_WS := jk_wts (i := 41) (by decide +kernel) rfl
theorem jw_s42 : Cond.selects "LevelingNetwork" ⟨"LevelingNetwork", "markOf", "(I)C"⟩ ⟨"LevelingNetwork", "markOf", "(I)C"⟩ ∈ jk_WS := jk_wts (i := 42) (by decide +kernel) rfl
theorem jw_s43 : Cond.selects "LevelingNetwork$Script" ⟨"LevelingNetwork$Script", "readCommand", "()Z"⟩ ⟨"LevelingNetwork$Script", "readCommand", "()Z"⟩ ∈ jk_WS := jk_wts (i := 43) (by decide +kernel) rfl
theorem jw_s44 : Cond.selects "LevelingNetwork$Script" ⟨"LevelingNetwork$Script", "readWord", "()LLevelingNetwork$Kind;"⟩ ⟨"LevelingNetwork$Script", "readWord", "()LLevelingNetwork$Kind;"⟩ ∈ jk_WS := jk_wts (i := 44) (by decide +kernel) rfl
theorem jw_s45 : Cond.selects "LevelingNetwork$Script" ⟨"LevelingNetwork$Script", "fittingSigns", "(Ljava/lang/String;)I"⟩ ⟨"LevelingNetwork$Script", "fittingSigns", "(Ljava/lang/String;)I"⟩ ∈ jk_WS := jk_wts (i := 45) (by decide +kernel) rfl
theorem jw_s46 : Cond.selects "LevelingNetwork$Script" ⟨"LevelingNetwork$Script", "signAt", "(I)C"⟩ ⟨"LevelingNetwork$Script", "signAt", "(I)C"⟩ ∈ jk_WS := jk_wts (i := 46) (by decide +kernel) rfl
theorem jw_s47 : Cond.selects "LevelingNetwork$Script" ⟨"LevelingNetwork$Script", "readForm", "(Ljava/lang/String;[I)Z"⟩ ⟨"LevelingNetwork$Script", "readForm", "(Ljava/lang/String;[I)Z"⟩ ∈ jk_WS := jk_wts (i := 47) (by decide +kernel) rfl
theorem jw_s48 : Cond.selects "LevelingNetwork$Script" ⟨"LevelingNetwork$Script", "readSign", "(C)Z"⟩ ⟨"LevelingNetwork$Script", "readSign", "(C)Z"⟩ ∈ jk_WS := jk_wts (i := 48) (by decide +kernel) rfl
theorem jw_s49 : Cond.selects "LevelingNetwork$Script" ⟨"LevelingNetwork$Script", "readArgument", "(IZ[II)Z"⟩ ⟨"LevelingNetwork$Script", "readArgument", "(IZ[II)Z"⟩ ∈ jk_WS := jk_wts (i := 49) (by decide +kernel) rfl
theorem jw_s50 : Cond.selects "LevelingNetwork" ⟨"LevelingNetwork", "firstFailure", "()I"⟩ ⟨"LevelingNetwork", "firstFailure", "()I"⟩ ∈ jk_WS := jk_wts (i := 50) (by decide +kernel) rfl
