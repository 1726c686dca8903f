def px_okn (m : Nat) : Bool := px_w (.initialized (px_y m).cls) && (plainName (px_y m).cls && decide ((px_y m).cls ≠ "java/lang/invoke/MethodHandle" ∧ (px_y m).cls ≠ "java/lang/invoke/VarHandle" ∧ (parseMethodDescriptor (px_y m).desc).map (fun d => d.parameters.length) = some (px_nps.getD m 0)))
def px_cwP (m : Nat) : Prop := Cond.code (px_y m) (px_by m) (px_ml m) (px_rt m) ∈ lw_tbl
set_option maxRecDepth 100000 in
theorem cw_0 : px_cwP 0 := List.mem_of_getElem? (i := 137) rfl
set_option maxRecDepth 100000 in
theorem cw_1 : px_cwP 1 := List.mem_of_getElem? (i := 637) rfl
set_option maxRecDepth 100000 in
theorem cw_2 : px_cwP 2 := List.mem_of_getElem? (i := 1027) rfl
set_option maxRecDepth 100000 in
theorem cw_3 : px_cwP 3 := List.mem_of_getElem? (i := 691) rfl
set_option maxRecDepth 100000 in
theorem cw_4 : px_cwP 4 := List.mem_of_getElem? (i := 687) rfl
set_option maxRecDepth 100000 in
theorem cw_5 : px_cwP 5 := List.mem_of_getElem? (i := 1003) rfl
set_option maxRecDepth 100000 in
theorem cw_6 : px_cwP 6 := List.mem_of_getElem? (i := 1007) rfl
set_option maxRecDepth 100000 in
theorem cw_7 : px_cwP 7 := List.mem_of_getElem? (i := 1016) rfl
set_option maxRecDepth 100000 in
theorem cw_8 : px_cwP 8 := List.mem_of_getElem? (i := 1023) rfl
set_option maxRecDepth 100000 in
theorem cw_9 : px_cwP 9 := List.mem_of_getElem? (i := 392) rfl
set_option maxRecDepth 100000 in
theorem cw_10 : px_cwP 10 := List.mem_of_getElem? (i := 840) rfl
set_option maxRecDepth 100000 in
theorem cw_11 : px_cwP 11 := List.mem_of_getElem? (i := 836) rfl
set_option maxRecDepth 100000 in
theorem cw_12 : px_cwP 12 := List.mem_of_getElem? (i := 947) rfl
set_option maxRecDepth 100000 in
theorem cw_13 : px_cwP 13 := List.mem_of_getElem? (i := 294) rfl
set_option maxRecDepth 100000 in
theorem cw_14 : px_cwP 14 := List.mem_of_getElem? (i := 723) rfl
set_option maxRecDepth 100000 in
theorem cw_15 : px_cwP 15 := List.mem_of_getElem? (i := 740) rfl
set_option maxRecDepth 100000 in
theorem cw_16 : px_cwP 16 := List.mem_of_getElem? (i := 780) rfl
set_option maxRecDepth 100000 in
theorem cw_17 : px_cwP 17 := List.mem_of_getElem? (i := 785) rfl
set_option maxRecDepth 100000 in
theorem cw_18 : px_cwP 18 := List.mem_of_getElem? (i := 407) rfl
set_option maxRecDepth 100000 in
theorem cw_19 : px_cwP 19 := List.mem_of_getElem? (i := 711) rfl
set_option maxRecDepth 100000 in
theorem cw_20 : px_cwP 20 := List.mem_of_getElem? (i := 707) rfl
set_option maxRecDepth 100000 in
theorem cw_21 : px_cwP 21 := List.mem_of_getElem? (i := 928) rfl
set_option maxRecDepth 100000 in
theorem cw_22 : px_cwP 22 := List.mem_of_getElem? (i := 938) rfl
set_option maxRecDepth 100000 in
theorem cw_23 : px_cwP 23 := List.mem_of_getElem? (i := 972) rfl
set_option maxRecDepth 100000 in
theorem cw_24 : px_cwP 24 := List.mem_of_getElem? (i := 266) rfl
set_option maxRecDepth 100000 in
theorem cw_25 : px_cwP 25 := List.mem_of_getElem? (i := 513) rfl
set_option maxRecDepth 100000 in
theorem cw_26 : px_cwP 26 := List.mem_of_getElem? (i := 528) rfl
set_option maxRecDepth 100000 in
theorem cw_27 : px_cwP 27 := List.mem_of_getElem? (i := 524) rfl
set_option maxRecDepth 100000 in
theorem cw_28 : px_cwP 28 := List.mem_of_getElem? (i := 532) rfl
set_option maxRecDepth 100000 in
theorem cw_29 : px_cwP 29 := List.mem_of_getElem? (i := 619) rfl
set_option maxRecDepth 100000 in
theorem cw_30 : px_cwP 30 := List.mem_of_getElem? (i := 641) rfl
set_option maxRecDepth 100000 in
theorem cw_31 : px_cwP 31 := List.mem_of_getElem? (i := 654) rfl
set_option maxRecDepth 100000 in
theorem cw_32 : px_cwP 32 := List.mem_of_getElem? (i := 659) rfl
set_option maxRecDepth 100000 in
theorem cw_33 : px_cwP 33 := List.mem_of_getElem? (i := 668) rfl
set_option maxRecDepth 100000 in
theorem cw_34 : px_cwP 34 := List.mem_of_getElem? (i := 677) rfl
set_option maxRecDepth 100000 in
theorem cw_35 : px_cwP 35 := List.mem_of_getElem? (i := 633) rfl
set_option maxRecDepth 100000 in
theorem cw_36 : px_cwP 36 := List.mem_of_getElem? (i := 625) rfl
set_option maxRecDepth 100000 in
theorem cw_37 : px_cwP 37 := List.mem_of_getElem? (i := 629) rfl
set_option maxRecDepth 100000 in
theorem cw_38 : px_cwP 38 := List.mem_of_getElem? (i := 174) rfl
set_option maxRecDepth 100000 in
theorem cw_39 : px_cwP 39 := List.mem_of_getElem? (i := 672) rfl
set_option maxRecDepth 100000 in
theorem cw_40 : px_cwP 40 := List.mem_of_getElem? (i := 649) rfl
set_option maxRecDepth 100000 in
theorem cw_41 : px_cwP 41 := List.mem_of_getElem? (i := 860) rfl
set_option maxRecDepth 100000 in
theorem cw_42 : px_cwP 42 := List.mem_of_getElem? (i := 864) rfl
set_option maxRecDepth 100000 in
theorem cw_43 : px_cwP 43 := List.mem_of_getElem? (i := 869) rfl
set_option maxRecDepth 100000 in
theorem cw_44 : px_cwP 44 := List.mem_of_getElem? (i := 848) rfl
set_option maxRecDepth 100000 in
theorem cw_45 : px_cwP 45 := List.mem_of_getElem? (i := 844) rfl
set_option maxRecDepth 100000 in
theorem cw_46 : px_cwP 46 := List.mem_of_getElem? (i := 286) rfl
set_option maxRecDepth 100000 in
theorem cw_47 : px_cwP 47 := List.mem_of_getElem? (i := 992) rfl
set_option maxRecDepth 100000 in
theorem cw_48 : px_cwP 48 := List.mem_of_getElem? (i := 715) rfl
set_option maxRecDepth 100000 in
theorem cw_49 : px_cwP 49 := List.mem_of_getElem? (i := 719) rfl
set_option maxRecDepth 100000 in
theorem cw_50 : px_cwP 50 := List.mem_of_getElem? (i := 736) rfl
set_option maxRecDepth 100000 in
theorem cw_51 : px_cwP 51 := List.mem_of_getElem? (i := 748) rfl
set_option maxRecDepth 100000 in
theorem cw_52 : px_cwP 52 := List.mem_of_getElem? (i := 790) rfl
set_option maxRecDepth 100000 in
theorem cw_53 : px_cwP 53 := List.mem_of_getElem? (i := 794) rfl
set_option maxRecDepth 100000 in
theorem cw_54 : px_cwP 54 := List.mem_of_getElem? (i := 824) rfl
set_option maxRecDepth 100000 in
theorem cw_55 : px_cwP 55 := List.mem_of_getElem? (i := 806) rfl
set_option maxRecDepth 100000 in
theorem cw_56 : px_cwP 56 := List.mem_of_getElem? (i := 752) rfl
set_option maxRecDepth 100000 in
theorem cw_57 : px_cwP 57 := List.mem_of_getElem? (i := 756) rfl
set_option maxRecDepth 100000 in
theorem cw_58 : px_cwP 58 := List.mem_of_getElem? (i := 759) rfl
set_option maxRecDepth 100000 in
theorem cw_59 : px_cwP 59 := List.mem_of_getElem? (i := 762) rfl
set_option maxRecDepth 100000 in
theorem cw_60 : px_cwP 60 := List.mem_of_getElem? (i := 425) rfl
set_option maxRecDepth 100000 in
theorem cw_61 : px_cwP 61 := List.mem_of_getElem? (i := 891) rfl
set_option maxRecDepth 100000 in
theorem cw_62 : px_cwP 62 := List.mem_of_getElem? (i := 902) rfl
set_option maxRecDepth 100000 in
theorem cw_63 : px_cwP 63 := List.mem_of_getElem? (i := 906) rfl
set_option maxRecDepth 100000 in
theorem cw_64 : px_cwP 64 := List.mem_of_getElem? (i := 898) rfl
set_option maxRecDepth 100000 in
theorem cw_65 : px_cwP 65 := List.mem_of_getElem? (i := 894) rfl
set_option maxRecDepth 100000 in
theorem cw_66 : px_cwP 66 := List.mem_of_getElem? (i := 131) rfl
set_option maxRecDepth 100000 in
theorem cw_67 : px_cwP 67 := List.mem_of_getElem? (i := 520) rfl
set_option maxRecDepth 100000 in
theorem cw_68 : px_cwP 68 := List.mem_of_getElem? (i := 301) rfl
set_option maxRecDepth 100000 in
theorem cw_69 : px_cwP 69 := List.mem_of_getElem? (i := 727) rfl
set_option maxRecDepth 100000 in
theorem cw_70 : px_cwP 70 := List.mem_of_getElem? (i := 744) rfl
set_option maxRecDepth 100000 in
theorem cw_71 : px_cwP 71 := List.mem_of_getElem? (i := 766) rfl
set_option maxRecDepth 100000 in
theorem cw_72 : px_cwP 72 := List.mem_of_getElem? (i := 771) rfl
set_option maxRecDepth 100000 in
theorem cw_73 : px_cwP 73 := List.mem_of_getElem? (i := 775) rfl
set_option maxRecDepth 100000 in
theorem cw_74 : px_cwP 74 := List.mem_of_getElem? (i := 798) rfl
set_option maxRecDepth 100000 in
theorem cw_75 : px_cwP 75 := List.mem_of_getElem? (i := 802) rfl
set_option maxRecDepth 100000 in
theorem cw_76 : px_cwP 76 := List.mem_of_getElem? (i := 810) rfl
set_option maxRecDepth 100000 in
theorem cw_77 : px_cwP 77 := List.mem_of_getElem? (i := 814) rfl
set_option maxRecDepth 100000 in
theorem cw_78 : px_cwP 78 := List.mem_of_getElem? (i := 819) rfl
set_option maxRecDepth 100000 in
theorem cw_79 : px_cwP 79 := List.mem_of_getElem? (i := 828) rfl
set_option maxRecDepth 100000 in
theorem cw_80 : px_cwP 80 := List.mem_of_getElem? (i := 832) rfl
set_option maxRecDepth 100000 in
theorem cw_81 : px_cwP 81 := List.mem_of_getElem? (i := 168) rfl
set_option maxRecDepth 100000 in
theorem cw_82 : px_cwP 82 := List.mem_of_getElem? (i := 645) rfl
set_option maxRecDepth 100000 in
theorem cw_83 : px_cwP 83 := List.mem_of_getElem? (i := 664) rfl
set_option maxRecDepth 100000 in
theorem cw_84 : px_cwP 84 := List.mem_of_getElem? (i := 732) rfl
set_option maxRecDepth 100000 in
theorem cw_85 : px_cwP 85 := List.mem_of_getElem? (i := 886) rfl
set_option maxRecDepth 100000 in
theorem cw_86 : px_cwP 86 := List.mem_of_getElem? (i := 943) rfl
set_option maxRecDepth 100000 in
theorem cw_87 : px_cwP 87 := List.mem_of_getElem? (i := 976) rfl
set_option maxRecDepth 100000 in
theorem cw_88 : px_cwP 88 := List.mem_of_getElem? (i := 955) rfl
set_option maxRecDepth 100000 in
theorem cw_89 : px_cwP 89 := List.mem_of_getElem? (i := 123) rfl
set_option maxRecDepth 100000 in
theorem cw_90 : px_cwP 90 := List.mem_of_getElem? (i := 504) rfl
set_option maxRecDepth 100000 in
theorem cw_91 : px_cwP 91 := List.mem_of_getElem? (i := 509) rfl
set_option maxRecDepth 100000 in
theorem cw_92 : px_cwP 92 := List.mem_of_getElem? (i := 683) rfl
set_option maxRecDepth 100000 in
theorem cw_93 : px_cwP 93 := List.mem_of_getElem? (i := 695) rfl
set_option maxRecDepth 100000 in
theorem cw_94 : px_cwP 94 := List.mem_of_getElem? (i := 852) rfl
set_option maxRecDepth 100000 in
theorem cw_95 : px_cwP 95 := List.mem_of_getElem? (i := 856) rfl
set_option maxRecDepth 100000 in
theorem cw_96 : px_cwP 96 := List.mem_of_getElem? (i := 873) rfl
set_option maxRecDepth 100000 in
theorem cw_97 : px_cwP 97 := List.mem_of_getElem? (i := 878) rfl
set_option maxRecDepth 100000 in
theorem cw_98 : px_cwP 98 := List.mem_of_getElem? (i := 910) rfl
set_option maxRecDepth 100000 in
theorem cw_99 : px_cwP 99 := List.mem_of_getElem? (i := 914) rfl
set_option maxRecDepth 100000 in
theorem cw_100 : px_cwP 100 := List.mem_of_getElem? (i := 951) rfl
set_option maxRecDepth 100000 in
theorem cw_101 : px_cwP 101 := List.mem_of_getElem? (i := 959) rfl
set_option maxRecDepth 100000 in
theorem cw_102 : px_cwP 102 := List.mem_of_getElem? (i := 964) rfl
set_option maxRecDepth 100000 in
theorem cw_103 : px_cwP 103 := List.mem_of_getElem? (i := 980) rfl
set_option maxRecDepth 100000 in
theorem cw_104 : px_cwP 104 := List.mem_of_getElem? (i := 984) rfl
set_option maxRecDepth 100000 in
theorem cw_105 : px_cwP 105 := List.mem_of_getElem? (i := 999) rfl
set_option maxRecDepth 100000 in
theorem cw_106 : px_cwP 106 := List.mem_of_getElem? (i := 1059) rfl
set_option maxRecDepth 100000 in
theorem cw_107 : px_cwP 107 := List.mem_of_getElem? (i := 1063) rfl
set_option maxRecDepth 100000 in
theorem cw_108 : px_cwP 108 := List.mem_of_getElem? (i := 1067) rfl
set_option maxRecDepth 100000 in
theorem cw_109 : px_cwP 109 := List.mem_of_getElem? (i := 699) rfl
set_option maxRecDepth 100000 in
theorem cw_110 : px_cwP 110 := List.mem_of_getElem? (i := 703) rfl
set_option maxRecDepth 100000 in
theorem cw_111 : px_cwP 111 := List.mem_of_getElem? (i := 882) rfl
set_option maxRecDepth 100000 in
theorem cw_112 : px_cwP 112 := List.mem_of_getElem? (i := 924) rfl
set_option maxRecDepth 100000 in
theorem cw_113 : px_cwP 113 := List.mem_of_getElem? (i := 934) rfl
set_option maxRecDepth 100000 in
theorem cw_114 : px_cwP 114 := List.mem_of_getElem? (i := 968) rfl
set_option maxRecDepth 100000 in
theorem cw_115 : px_cwP 115 := List.mem_of_getElem? (i := 988) rfl
set_option maxRecDepth 100000 in
theorem cw_116 : px_cwP 116 := List.mem_of_getElem? (i := 1012) rfl
set_option maxRecDepth 100000 in
theorem cw_117 : px_cwP 117 := List.mem_of_getElem? (i := 1072) rfl
set_option maxRecDepth 100000 in
theorem cw_118 : px_cwP 118 := List.mem_of_getElem? (i := 1295) rfl
set_option maxRecDepth 100000 in
theorem cw_119 : px_cwP 119 := List.mem_of_getElem? (i := 1292) rfl
set_option maxRecDepth 100000 in
theorem cw_120 : px_cwP 120 := List.mem_of_getElem? (i := 1316) rfl
set_option maxRecDepth 100000 in
theorem cw_121 : px_cwP 121 := List.mem_of_getElem? (i := 1320) rfl
set_option maxRecDepth 100000 in
theorem cw_122 : px_cwP 122 := List.mem_of_getElem? (i := 1312) rfl
set_option maxRecDepth 100000 in
theorem cw_123 : px_cwP 123 := List.mem_of_getElem? (i := 1332) rfl
set_option maxRecDepth 100000 in
theorem cw_124 : px_cwP 124 := List.mem_of_getElem? (i := 1344) rfl
set_option maxRecDepth 100000 in
theorem cw_125 : px_cwP 125 := List.mem_of_getElem? (i := 1340) rfl
set_option maxRecDepth 100000 in
theorem cw_126 : px_cwP 126 := List.mem_of_getElem? (i := 1356) rfl
set_option maxRecDepth 100000 in
theorem cw_127 : px_cwP 127 := List.mem_of_getElem? (i := 1336) rfl
set_option maxRecDepth 100000 in
theorem cw_128 : px_cwP 128 := List.mem_of_getElem? (i := 1352) rfl
set_option maxRecDepth 100000 in
theorem cw_129 : px_cwP 129 := List.mem_of_getElem? (i := 1348) rfl
set_option maxRecDepth 100000 in
theorem cw_130 : px_cwP 130 := List.mem_of_getElem? (i := 1328) rfl
set_option maxRecDepth 100000 in
theorem cw_131 : px_cwP 131 := List.mem_of_getElem? (i := 1324) rfl
set_option maxRecDepth 100000 in
theorem cw_132 : px_cwP 132 := List.mem_of_getElem? (i := 1308) rfl
set_option maxRecDepth 100000 in
theorem cw_133 : px_cwP 133 := List.mem_of_getElem? (i := 1363) rfl
set_option maxRecDepth 100000 in
theorem cw_134 : px_cwP 134 := List.mem_of_getElem? (i := 1371) rfl
set_option maxRecDepth 100000 in
theorem cw_135 : px_cwP 135 := List.mem_of_getElem? (i := 1367) rfl
set_option maxRecDepth 100000 in
theorem cw_136 : px_cwP 136 := List.mem_of_getElem? (i := 1375) rfl
set_option maxRecDepth 100000 in
theorem cw_137 : px_cwP 137 := List.mem_of_getElem? (i := 1360) rfl
set_option maxRecDepth 100000 in
theorem cw_138 : px_cwP 138 := List.mem_of_getElem? (i := 1304) rfl
set_option maxRecDepth 100000 in
theorem cw_139 : px_cwP 139 := List.mem_of_getElem? (i := 1300) rfl
set_option maxRecDepth 100000 in
theorem cw_140 : px_cwP 140 := List.mem_of_getElem? (i := 1391) rfl
set_option maxRecDepth 100000 in
theorem cw_141 : px_cwP 141 := List.mem_of_getElem? (i := 1423) rfl
set_option maxRecDepth 100000 in
theorem cw_142 : px_cwP 142 := List.mem_of_getElem? (i := 1431) rfl
set_option maxRecDepth 100000 in
theorem cw_143 : px_cwP 143 := List.mem_of_getElem? (i := 1435) rfl
set_option maxRecDepth 100000 in
theorem cw_144 : px_cwP 144 := List.mem_of_getElem? (i := 1439) rfl
set_option maxRecDepth 100000 in
theorem cw_145 : px_cwP 145 := List.mem_of_getElem? (i := 1427) rfl
set_option maxRecDepth 100000 in
theorem cw_146 : px_cwP 146 := List.mem_of_getElem? (i := 1419) rfl
set_option maxRecDepth 100000 in
theorem cw_147 : px_cwP 147 := List.mem_of_getElem? (i := 1451) rfl
set_option maxRecDepth 100000 in
theorem cw_148 : px_cwP 148 := List.mem_of_getElem? (i := 1447) rfl
set_option maxRecDepth 100000 in
theorem cw_149 : px_cwP 149 := List.mem_of_getElem? (i := 1459) rfl
set_option maxRecDepth 100000 in
theorem cw_150 : px_cwP 150 := List.mem_of_getElem? (i := 1455) rfl
set_option maxRecDepth 100000 in
theorem cw_151 : px_cwP 151 := List.mem_of_getElem? (i := 1443) rfl
set_option maxRecDepth 100000 in
theorem cw_152 : px_cwP 152 := List.mem_of_getElem? (i := 1411) rfl
set_option maxRecDepth 100000 in
theorem cw_153 : px_cwP 153 := List.mem_of_getElem? (i := 1407) rfl
set_option maxRecDepth 100000 in
theorem cw_154 : px_cwP 154 := List.mem_of_getElem? (i := 1415) rfl
set_option maxRecDepth 100000 in
theorem cw_155 : px_cwP 155 := List.mem_of_getElem? (i := 1403) rfl
set_option maxRecDepth 100000 in
theorem cw_156 : px_cwP 156 := List.mem_of_getElem? (i := 1399) rfl
set_option maxRecDepth 100000 in
theorem cw_157 : px_cwP 157 := List.mem_of_getElem? (i := 1395) rfl
set_option maxRecDepth 100000 in
theorem cw_158 : px_cwP 158 := List.mem_of_getElem? (i := 1387) rfl
set_option maxRecDepth 100000 in
theorem cw_159 : px_cwP 159 := List.mem_of_getElem? (i := 1471) rfl
set_option maxRecDepth 100000 in
theorem cw_160 : px_cwP 160 := List.mem_of_getElem? (i := 1475) rfl
set_option maxRecDepth 100000 in
theorem cw_161 : px_cwP 161 := List.mem_of_getElem? (i := 1485) rfl
set_option maxRecDepth 100000 in
theorem cw_162 : px_cwP 162 := List.mem_of_getElem? (i := 1482) rfl
set_option maxRecDepth 100000 in
theorem cw_163 : px_cwP 163 := List.mem_of_getElem? (i := 1479) rfl
set_option maxRecDepth 100000 in
theorem cw_164 : px_cwP 164 := List.mem_of_getElem? (i := 1489) rfl
set_option maxRecDepth 100000 in
theorem cw_165 : px_cwP 165 := List.mem_of_getElem? (i := 1467) rfl
set_option maxRecDepth 100000 in
theorem cw_166 : px_cwP 166 := List.mem_of_getElem? (i := 1463) rfl
set_option maxRecDepth 100000 in
theorem cw_167 : px_cwP 167 := List.mem_of_getElem? (i := 1383) rfl
set_option maxRecDepth 100000 in
theorem cw_168 : px_cwP 168 := List.mem_of_getElem? (i := 1379) rfl
set_option maxRecDepth 100000 in
theorem cw_169 : px_cwP 169 := List.mem_of_getElem? (i := 1493) rfl
set_option maxRecDepth 100000 in
theorem cw_170 : px_cwP 170 := List.mem_of_getElem? (i := 1497) rfl
set_option maxRecDepth 100000 in
theorem cw_171 : px_cwP 171 := List.mem_of_getElem? (i := 1501) rfl
set_option maxRecDepth 100000 in
theorem cw_172 : px_cwP 172 := List.mem_of_getElem? (i := 1516) rfl
set_option maxRecDepth 100000 in
theorem cw_173 : px_cwP 173 := List.mem_of_getElem? (i := 1519) rfl
set_option maxRecDepth 100000 in
theorem cw_174 : px_cwP 174 := List.mem_of_getElem? (i := 1513) rfl
set_option maxRecDepth 100000 in
theorem cw_175 : px_cwP 175 := List.mem_of_getElem? (i := 1531) rfl
set_option maxRecDepth 100000 in
theorem cw_176 : px_cwP 176 := List.mem_of_getElem? (i := 1527) rfl
set_option maxRecDepth 100000 in
theorem cw_177 : px_cwP 177 := List.mem_of_getElem? (i := 1523) rfl
set_option maxRecDepth 100000 in
theorem cw_178 : px_cwP 178 := List.mem_of_getElem? (i := 1509) rfl
set_option maxRecDepth 100000 in
theorem cw_179 : px_cwP 179 := List.mem_of_getElem? (i := 1505) rfl
set_option maxRecDepth 100000 in
theorem cw_180 : px_cwP 180 := List.mem_of_getElem? (i := 1535) rfl
set_option maxRecDepth 100000 in
theorem cw_181 : px_cwP 181 := List.mem_of_getElem? (i := 1547) rfl
set_option maxRecDepth 100000 in
theorem cw_182 : px_cwP 182 := List.mem_of_getElem? (i := 1559) rfl
set_option maxRecDepth 100000 in
theorem cw_183 : px_cwP 183 := List.mem_of_getElem? (i := 1555) rfl
set_option maxRecDepth 100000 in
theorem cw_184 : px_cwP 184 := List.mem_of_getElem? (i := 1543) rfl
set_option maxRecDepth 100000 in
theorem cw_185 : px_cwP 185 := List.mem_of_getElem? (i := 1551) rfl
set_option maxRecDepth 100000 in
theorem cw_186 : px_cwP 186 := List.mem_of_getElem? (i := 1539) rfl
set_option maxRecDepth 100000 in
theorem cw_187 : px_cwP 187 := List.mem_of_getElem? (i := 1563) rfl
set_option maxRecDepth 100000 in
theorem cw_188 : px_cwP 188 := List.mem_of_getElem? (i := 1567) rfl
set_option maxRecDepth 100000 in
theorem cw_189 : px_cwP 189 := List.mem_of_getElem? (i := 1580) rfl
set_option maxRecDepth 100000 in
theorem cw_190 : px_cwP 190 := List.mem_of_getElem? (i := 1576) rfl
set_option maxRecDepth 100000 in
theorem cw_191 : px_cwP 191 := List.mem_of_getElem? (i := 1572) rfl
set_option maxRecDepth 100000 in
theorem cw_192 : px_cwP 192 := List.mem_of_getElem? (i := 1584) rfl
set_option maxRecDepth 100000 in
theorem cw_193 : px_cwP 193 := List.mem_of_getElem? (i := 1588) rfl
set_option maxRecDepth 100000 in
theorem cw_194 : px_cwP 194 := List.mem_of_getElem? (i := 1600) rfl
set_option maxRecDepth 100000 in
theorem cw_195 : px_cwP 195 := List.mem_of_getElem? (i := 1596) rfl
set_option maxRecDepth 100000 in
theorem cw_196 : px_cwP 196 := List.mem_of_getElem? (i := 1619) rfl
set_option maxRecDepth 100000 in
theorem cw_197 : px_cwP 197 := List.mem_of_getElem? (i := 1604) rfl
set_option maxRecDepth 100000 in
theorem cw_198 : px_cwP 198 := List.mem_of_getElem? (i := 1608) rfl
set_option maxRecDepth 100000 in
theorem cw_199 : px_cwP 199 := List.mem_of_getElem? (i := 1616) rfl
set_option maxRecDepth 100000 in
theorem cw_200 : px_cwP 200 := List.mem_of_getElem? (i := 1612) rfl
set_option maxRecDepth 100000 in
theorem cw_201 : px_cwP 201 := List.mem_of_getElem? (i := 1592) rfl
set_option maxRecDepth 100000 in
theorem cw_202 : px_cwP 202 := List.mem_of_getElem? (i := 1623) rfl
set_option maxRecDepth 100000 in
theorem cw_203 : px_cwP 203 := List.mem_of_getElem? (i := 1627) rfl
set_option maxRecDepth 100000 in
theorem cw_204 : px_cwP 204 := List.mem_of_getElem? (i := 1631) rfl
set_option maxRecDepth 100000 in
theorem cw_205 : px_cwP 205 := List.mem_of_getElem? (i := 1635) rfl
set_option maxRecDepth 100000 in
theorem cw_206 : px_cwP 206 := List.mem_of_getElem? (i := 1054) rfl
set_option maxRecDepth 100000 in
theorem cw_207 : px_cwP 207 := List.mem_of_getElem? (i := 917) rfl
set_option maxRecDepth 100000 in
theorem cw_208 : px_cwP 208 := List.mem_of_getElem? (i := 551) rfl
set_option maxRecDepth 100000 in
theorem cw_209 : px_cwP 209 := List.mem_of_getElem? (i := 1035) rfl
set_option maxRecDepth 100000 in
theorem cw_210 : px_cwP 210 := List.mem_of_getElem? (i := 537) rfl
set_option maxRecDepth 100000 in
theorem cw_211 : px_cwP 211 := List.mem_of_getElem? (i := 541) rfl
set_option maxRecDepth 100000 in
theorem cw_212 : px_cwP 212 := List.mem_of_getElem? (i := 555) rfl
set_option maxRecDepth 100000 in
theorem cw_213 : px_cwP 213 := List.mem_of_getElem? (i := 545) rfl
set_option maxRecDepth 100000 in
theorem cw_214 : px_cwP 214 := List.mem_of_getElem? (i := 1041) rfl
set_option maxRecDepth 100000 in
theorem cw_215 : px_cwP 215 := List.mem_of_getElem? (i := 1038) rfl
set_option maxRecDepth 100000 in
theorem cw_216 : px_cwP 216 := List.mem_of_getElem? (i := 561) rfl
set_option maxRecDepth 100000 in
theorem cw_217 : px_cwP 217 := List.mem_of_getElem? (i := 558) rfl
set_option maxRecDepth 100000 in
theorem cw_218 : px_cwP 218 := List.mem_of_getElem? (i := 566) rfl
set_option maxRecDepth 100000 in
theorem cw_219 : px_cwP 219 := List.mem_of_getElem? (i := 1044) rfl
