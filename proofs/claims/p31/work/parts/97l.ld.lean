/-! PUBLIC CALLS d, printed by a program -/
def E_ld : e2_E := [(2147483648, 2147583648, 0, 0), (2147483648, 2147483656, 1, 0), (2147483648, 2147483688, 2, 0), (2147483648, 2147483688, 3, 0)]
def ldc0 : ev_C := (100, [])
def ldc1 : ev_C := (54, [(0, 30, 0), (11, 0, 4294967295)])
def ldn0 : e2_Q1 := (ldc0, ldc1)
def ldc2 : ev_C := (164, [])
def ldc3 : ev_C := (999, [])
def ldn1 : e2_Q1 := (ldc2, ldc3)
def ldn2 : e2_Q2 := (ldn0, ldn1)
def ldc4 : ev_C := (132, [])
def ldn3 : e2_Q1 := (ldc4, ldc3)
def ldc5 : ev_C := (50, [(11, 0, 4294967295), (11, 0, 4294967295), (11, 0, 4294967295), (11, 0, 4294967295), (11, 0, 4294967295), (11, 0, 4294967295), (11, 0, 4294967295), (11, 0, 4294967295), (11, 0, 4294967295), (11, 0, 4294967295), (11, 0, 4294967295), (11, 0, 4294967295), (11, 0, 4294967295), (11, 0, 4294967295), (11, 0, 4294967295), (11, 0, 4294967295)])
def ldn4 : e2_Q1 := (ldc5, ldc3)
def ldn5 : e2_Q2 := (ldn3, ldn4)
def ldn6 : e2_Q3 := (ldn2, ldn5)
def ldc6 : ev_C := (116, [])
def ldn7 : e2_Q1 := (ldc6, ldc3)
def ldc7 : ev_C := (180, [])
def ldn8 : e2_Q1 := (ldc7, ldc3)
def ldn9 : e2_Q2 := (ldn7, ldn8)
def ldc8 : ev_C := (148, [])
def ldn10 : e2_Q1 := (ldc8, ldc3)
def ldc9 : ev_C := (50, [(11, 0, 4294967295), (11, 0, 4294967295), (11, 0, 4294967295), (11, 0, 4294967295), (11, 0, 4294967295), (11, 0, 4294967295), (11, 0, 4294967295), (11, 0, 4294967295), (11, 0, 4294967295), (11, 0, 4294967295), (11, 0, 4294967295), (11, 0, 4294967295), (11, 0, 4294967295), (11, 0, 4294967295), (11, 0, 4294967295), (11, 0, 4294967295), (11, 0, 4294967295), (11, 0, 4294967295), (11, 0, 4294967295), (11, 0, 4294967295), (11, 0, 4294967295), (11, 0, 4294967295), (11, 0, 4294967295), (11, 0, 4294967295), (11, 0, 4294967295), (11, 2147483648, 2147484647)])
def ldn11 : e2_Q1 := (ldc9, ldc3)
def ldn12 : e2_Q2 := (ldn10, ldn11)
def ldn13 : e2_Q3 := (ldn9, ldn12)
def ldn14 : e2_Q4 := (ldn6, ldn13)
def ldc10 : ev_C := (108, [])
def ldn15 : e2_Q1 := (ldc10, ldc3)
def ldc11 : ev_C := (172, [])
def ldn16 : e2_Q1 := (ldc11, ldc3)
def ldn17 : e2_Q2 := (ldn15, ldn16)
def ldc12 : ev_C := (140, [])
def ldn18 : e2_Q1 := (ldc12, ldc3)
def ldc13 : ev_C := (52, [(11, 2147483648, 2147483649), (11, 2147483648, 2147483649), (0, 0, 0), (0, 0, 0)])
def ldn19 : e2_Q1 := (ldc13, ldc3)
def ldn20 : e2_Q2 := (ldn18, ldn19)
def ldn21 : e2_Q3 := (ldn17, ldn20)
def ldc14 : ev_C := (124, [])
def ldn22 : e2_Q1 := (ldc14, ldc3)
def ldc15 : ev_C := (50, [(11, 2147483648, 2147483656), (1, 1, 4294967296)])
def ldn23 : e2_Q1 := (ldc15, ldc3)
def ldn24 : e2_Q2 := (ldn22, ldn23)
def ldc16 : ev_C := (156, [])
def ldn25 : e2_Q1 := (ldc16, ldc3)
def ldn26 : e2_Q2 := (ldn25, ldn11)
def ldn27 : e2_Q3 := (ldn24, ldn26)
def ldn28 : e2_Q4 := (ldn21, ldn27)
def ldn29 : e2_Q5 := (ldn14, ldn28)
def ldc17 : ev_C := (104, [])
def ldc18 : ev_C := (56, [(0, 3, 0), (11, 2147483648, 2147483649)])
def ldn30 : e2_Q1 := (ldc17, ldc18)
def ldc19 : ev_C := (168, [])
def ldn31 : e2_Q1 := (ldc19, ldc3)
def ldn32 : e2_Q2 := (ldn30, ldn31)
def ldc20 : ev_C := (136, [])
def ldn33 : e2_Q1 := (ldc20, ldc3)
def ldn34 : e2_Q2 := (ldn33, ldn4)
def ldn35 : e2_Q3 := (ldn32, ldn34)
def ldc21 : ev_C := (120, [])
def ldn36 : e2_Q1 := (ldc21, ldc3)
def ldc22 : ev_C := (55, [(0, 1620, 0), (11, 2147483520, 2147483775)])
def ldn37 : e2_Q1 := (ldc22, ldc3)
def ldn38 : e2_Q2 := (ldn36, ldn37)
def ldc23 : ev_C := (152, [])
def ldn39 : e2_Q1 := (ldc23, ldc3)
def ldc24 : ev_C := (54, [(0, 20, 0), (11, 2147483648, 2147483655)])
def ldn40 : e2_Q1 := (ldc24, ldc3)
def ldn41 : e2_Q2 := (ldn39, ldn40)
def ldn42 : e2_Q3 := (ldn38, ldn41)
def ldn43 : e2_Q4 := (ldn35, ldn42)
def ldc25 : ev_C := (112, [])
def ldn44 : e2_Q1 := (ldc25, ldc3)
def ldc26 : ev_C := (176, [])
def ldn45 : e2_Q1 := (ldc26, ldc3)
def ldn46 : e2_Q2 := (ldn44, ldn45)
def ldc27 : ev_C := (144, [])
def ldn47 : e2_Q1 := (ldc27, ldc3)
def ldc28 : ev_C := (54, [(0, 1120, 0), (11, 0, 4294967295)])
def ldn48 : e2_Q1 := (ldc28, ldc3)
def ldn49 : e2_Q2 := (ldn47, ldn48)
def ldn50 : e2_Q3 := (ldn46, ldn49)
def ldc29 : ev_C := (128, [])
def ldn51 : e2_Q1 := (ldc29, ldc3)
def ldc30 : ev_C := (50, [(11, 2147483648, 2147483708), (11, 2147483648, 2147483708)])
def ldn52 : e2_Q1 := (ldc30, ldc3)
def ldn53 : e2_Q2 := (ldn51, ldn52)
def ldc31 : ev_C := (160, [])
def ldn54 : e2_Q1 := (ldc31, ldc3)
def ldc32 : ev_C := (50, [(11, 2147483647, 2147483655), (11, 2147483647, 2147483655), (11, 2147483647, 2147483655)])
def ldn55 : e2_Q1 := (ldc32, ldc3)
def ldn56 : e2_Q2 := (ldn54, ldn55)
def ldn57 : e2_Q3 := (ldn53, ldn56)
def ldn58 : e2_Q4 := (ldn50, ldn57)
def ldn59 : e2_Q5 := (ldn43, ldn58)
def ldn60 : e2_Q6 := (ldn29, ldn59)
def ldc33 : ev_C := (102, [])
def ldc34 : ev_C := (54, [(0, 16, 0), (11, 0, 4294967295)])
def ldn61 : e2_Q1 := (ldc33, ldc34)
def ldc35 : ev_C := (166, [])
def ldn62 : e2_Q1 := (ldc35, ldc3)
def ldn63 : e2_Q2 := (ldn61, ldn62)
def ldc36 : ev_C := (134, [])
def ldn64 : e2_Q1 := (ldc36, ldc3)
def ldc37 : ev_C := (50, [(11, 2147483648, 2147483651), (11, 2147483648, 2147483651), (11, 2147483648, 2147483651), (11, 2147483648, 2147483651), (11, 2147483648, 2147483651), (11, 2147483648, 2147483651), (11, 2147483648, 2147483651), (11, 2147483648, 2147483651), (11, 2147483648, 2147483651), (11, 2147483648, 2147483651), (11, 2147483648, 2147483651), (11, 2147483648, 2147483651), (11, 2147483648, 2147483651), (11, 2147483648, 2147483651), (11, 2147483648, 2147483651), (11, 2147483648, 2147483651)])
def ldn65 : e2_Q1 := (ldc37, ldc3)
def ldn66 : e2_Q2 := (ldn64, ldn65)
def ldn67 : e2_Q3 := (ldn63, ldn66)
def ldc38 : ev_C := (118, [])
def ldn68 : e2_Q1 := (ldc38, ldc3)
def ldc39 : ev_C := (182, [])
def ldn69 : e2_Q1 := (ldc39, ldc3)
def ldn70 : e2_Q2 := (ldn68, ldn69)
def ldc40 : ev_C := (150, [])
def ldn71 : e2_Q1 := (ldc40, ldc3)
def ldc41 : ev_C := (54, [(0, 189, 0), (11, 0, 4294967295)])
def ldn72 : e2_Q1 := (ldc41, ldc3)
def ldn73 : e2_Q2 := (ldn71, ldn72)
def ldn74 : e2_Q3 := (ldn70, ldn73)
def ldn75 : e2_Q4 := (ldn67, ldn74)
def ldc42 : ev_C := (110, [])
def ldn76 : e2_Q1 := (ldc42, ldc3)
def ldc43 : ev_C := (174, [])
def ldn77 : e2_Q1 := (ldc43, ldc3)
def ldn78 : e2_Q2 := (ldn76, ldn77)
def ldc44 : ev_C := (142, [])
def ldn79 : e2_Q1 := (ldc44, ldc3)
def ldc45 : ev_C := (53, [(0, 16, 0)])
def ldn80 : e2_Q1 := (ldc45, ldc3)
def ldn81 : e2_Q2 := (ldn79, ldn80)
def ldn82 : e2_Q3 := (ldn78, ldn81)
def ldc46 : ev_C := (126, [])
def ldn83 : e2_Q1 := (ldc46, ldc3)
def ldc47 : ev_C := (50, [(11, 0, 4294967295), (11, 0, 4294967295)])
def ldn84 : e2_Q1 := (ldc47, ldc3)
def ldn85 : e2_Q2 := (ldn83, ldn84)
def ldc48 : ev_C := (158, [])
def ldn86 : e2_Q1 := (ldc48, ldc3)
def ldc49 : ev_C := (54, [(0, 8, 0), (11, 2147483648, 2147483667)])
def ldn87 : e2_Q1 := (ldc49, ldc3)
def ldn88 : e2_Q2 := (ldn86, ldn87)
def ldn89 : e2_Q3 := (ldn85, ldn88)
def ldn90 : e2_Q4 := (ldn82, ldn89)
def ldn91 : e2_Q5 := (ldn75, ldn90)
def ldc50 : ev_C := (106, [])
def ldn92 : e2_Q1 := (ldc50, ldc3)
def ldc51 : ev_C := (170, [])
def ldn93 : e2_Q1 := (ldc51, ldc3)
def ldn94 : e2_Q2 := (ldn92, ldn93)
def ldc52 : ev_C := (138, [])
def ldn95 : e2_Q1 := (ldc52, ldc3)
def ldc53 : ev_C := (75, [])
def ldn96 : e2_Q1 := (ldc53, ldc3)
def ldn97 : e2_Q2 := (ldn95, ldn96)
def ldn98 : e2_Q3 := (ldn94, ldn97)
def ldc54 : ev_C := (122, [])
def ldn99 : e2_Q1 := (ldc54, ldc3)
def ldc55 : ev_C := (50, [(11, 2147483652, 2147483668), (11, 2147483652, 2147483668)])
def ldn100 : e2_Q1 := (ldc55, ldc3)
def ldn101 : e2_Q2 := (ldn99, ldn100)
def ldc56 : ev_C := (154, [])
def ldn102 : e2_Q1 := (ldc56, ldc3)
def ldc57 : ev_C := (66, [])
def ldn103 : e2_Q1 := (ldc57, ldc3)
def ldn104 : e2_Q2 := (ldn102, ldn103)
def ldn105 : e2_Q3 := (ldn101, ldn104)
def ldn106 : e2_Q4 := (ldn98, ldn105)
def ldc58 : ev_C := (114, [])
def ldn107 : e2_Q1 := (ldc58, ldc3)
def ldc59 : ev_C := (178, [])
def ldn108 : e2_Q1 := (ldc59, ldc3)
def ldn109 : e2_Q2 := (ldn107, ldn108)
def ldc60 : ev_C := (146, [])
def ldn110 : e2_Q1 := (ldc60, ldc3)
def ldc61 : ev_C := (54, [(0, 90, 0), (11, 0, 4294967295)])
def ldn111 : e2_Q1 := (ldc61, ldc3)
def ldn112 : e2_Q2 := (ldn110, ldn111)
def ldn113 : e2_Q3 := (ldn109, ldn112)
def ldc62 : ev_C := (130, [])
def ldn114 : e2_Q1 := (ldc62, ldc3)
def ldn115 : e2_Q2 := (ldn114, ldn84)
def ldc63 : ev_C := (162, [])
def ldn116 : e2_Q1 := (ldc63, ldc3)
def ldn117 : e2_Q1 := (ldc1, ldc3)
def ldn118 : e2_Q2 := (ldn116, ldn117)
def ldn119 : e2_Q3 := (ldn115, ldn118)
def ldn120 : e2_Q4 := (ldn113, ldn119)
def ldn121 : e2_Q5 := (ldn106, ldn120)
def ldn122 : e2_Q6 := (ldn91, ldn121)
def ldn123 : e2_Q7 := (ldn60, ldn122)
def ldc64 : ev_C := (101, [])
def ldn124 : e2_Q1 := (ldc64, ldc1)
def ldc65 : ev_C := (165, [])
def ldn125 : e2_Q1 := (ldc65, ldc3)
def ldn126 : e2_Q2 := (ldn124, ldn125)
def ldc66 : ev_C := (133, [])
def ldn127 : e2_Q1 := (ldc66, ldc3)
def ldc67 : ev_C := (50, [(11, 2147483648, 2147483654), (11, 2147483648, 2147483654), (11, 2147483648, 2147483654), (11, 2147483648, 2147483654), (11, 2147483648, 2147483654), (11, 2147483648, 2147483654), (11, 2147483648, 2147483654), (11, 2147483648, 2147483654), (15, 1, 2147483654), (15, 9, 2147483654), (15, 17, 2147483654), (15, 25, 2147483654), (15, 33, 2147483654), (15, 41, 2147483654), (15, 49, 2147483654), (15, 57, 2147483654)])
def ldn128 : e2_Q1 := (ldc67, ldc3)
def ldn129 : e2_Q2 := (ldn127, ldn128)
def ldn130 : e2_Q3 := (ldn126, ldn129)
def ldc68 : ev_C := (117, [])
def ldn131 : e2_Q1 := (ldc68, ldc3)
def ldc69 : ev_C := (181, [])
def ldn132 : e2_Q1 := (ldc69, ldc3)
def ldn133 : e2_Q2 := (ldn131, ldn132)
def ldc70 : ev_C := (149, [])
def ldn134 : e2_Q1 := (ldc70, ldc3)
def ldc71 : ev_C := (54, [(0, 160, 0), (11, 0, 4294967295)])
def ldn135 : e2_Q1 := (ldc71, ldc3)
def ldn136 : e2_Q2 := (ldn134, ldn135)
def ldn137 : e2_Q3 := (ldn133, ldn136)
def ldn138 : e2_Q4 := (ldn130, ldn137)
def ldc72 : ev_C := (109, [])
def ldn139 : e2_Q1 := (ldc72, ldc3)
def ldc73 : ev_C := (173, [])
def ldn140 : e2_Q1 := (ldc73, ldc3)
def ldn141 : e2_Q2 := (ldn139, ldn140)
def ldc74 : ev_C := (141, [])
def ldn142 : e2_Q1 := (ldc74, ldc3)
def ldc75 : ev_C := (53, [(0, 8, 0)])
def ldn143 : e2_Q1 := (ldc75, ldc3)
def ldn144 : e2_Q2 := (ldn142, ldn143)
def ldn145 : e2_Q3 := (ldn141, ldn144)
def ldc76 : ev_C := (125, [])
def ldn146 : e2_Q1 := (ldc76, ldc3)
def ldn147 : e2_Q2 := (ldn146, ldn84)
def ldc77 : ev_C := (157, [])
def ldn148 : e2_Q1 := (ldc77, ldc3)
def ldc78 : ev_C := (54, [(0, 20, 0), (11, 0, 4294967295)])
def ldn149 : e2_Q1 := (ldc78, ldc3)
def ldn150 : e2_Q2 := (ldn148, ldn149)
def ldn151 : e2_Q3 := (ldn147, ldn150)
def ldn152 : e2_Q4 := (ldn145, ldn151)
def ldn153 : e2_Q5 := (ldn138, ldn152)
def ldc79 : ev_C := (105, [])
def ldn154 : e2_Q1 := (ldc79, ldc3)
def ldc80 : ev_C := (169, [])
def ldn155 : e2_Q1 := (ldc80, ldc3)
def ldn156 : e2_Q2 := (ldn154, ldn155)
def ldc81 : ev_C := (137, [])
def ldn157 : e2_Q1 := (ldc81, ldc3)
def ldc82 : ev_C := (74, [])
def ldn158 : e2_Q1 := (ldc82, ldc3)
def ldn159 : e2_Q2 := (ldn157, ldn158)
def ldn160 : e2_Q3 := (ldn156, ldn159)
def ldc83 : ev_C := (121, [])
def ldn161 : e2_Q1 := (ldc83, ldc3)
def ldc84 : ev_C := (55, [(0, 1600, 0), (11, 2147483520, 2147483775)])
def ldn162 : e2_Q1 := (ldc84, ldc3)
def ldn163 : e2_Q2 := (ldn161, ldn162)
def ldc85 : ev_C := (153, [])
def ldn164 : e2_Q1 := (ldc85, ldc3)
def ldc86 : ev_C := (54, [(0, 20, 0), (11, 2147483648, 2147483667)])
def ldn165 : e2_Q1 := (ldc86, ldc3)
def ldn166 : e2_Q2 := (ldn164, ldn165)
def ldn167 : e2_Q3 := (ldn163, ldn166)
def ldn168 : e2_Q4 := (ldn160, ldn167)
def ldc87 : ev_C := (113, [])
def ldn169 : e2_Q1 := (ldc87, ldc3)
def ldc88 : ev_C := (177, [])
def ldn170 : e2_Q1 := (ldc88, ldc3)
def ldn171 : e2_Q2 := (ldn169, ldn170)
def ldc89 : ev_C := (145, [])
def ldn172 : e2_Q1 := (ldc89, ldc3)
def ldn173 : e2_Q2 := (ldn172, ldn111)
def ldn174 : e2_Q3 := (ldn171, ldn173)
def ldc90 : ev_C := (129, [])
def ldn175 : e2_Q1 := (ldc90, ldc3)
def ldc91 : ev_C := (50, [(11, 2147483648, 2147484647), (11, 2147483648, 2147484647)])
def ldn176 : e2_Q1 := (ldc91, ldc3)
def ldn177 : e2_Q2 := (ldn175, ldn176)
def ldc92 : ev_C := (161, [])
def ldn178 : e2_Q1 := (ldc92, ldc3)
def ldc93 : ev_C := (54, [(0, 3, 0), (11, 0, 4294967295)])
def ldn179 : e2_Q1 := (ldc93, ldc3)
def ldn180 : e2_Q2 := (ldn178, ldn179)
def ldn181 : e2_Q3 := (ldn177, ldn180)
def ldn182 : e2_Q4 := (ldn174, ldn181)
def ldn183 : e2_Q5 := (ldn168, ldn182)
def ldn184 : e2_Q6 := (ldn153, ldn183)
def ldc94 : ev_C := (103, [])
def ldc95 : ev_C := (50, [(11, 0, 4294967295), (11, 0, 4294967295), (11, 0, 4294967295), (11, 0, 4294967295), (11, 0, 4294967295), (11, 0, 4294967295), (11, 0, 4294967295), (11, 0, 4294967295), (11, 0, 4294967295), (11, 0, 4294967295), (11, 0, 4294967295), (11, 0, 4294967295), (11, 0, 4294967295), (11, 0, 4294967295), (11, 0, 4294967295), (11, 0, 4294967295), (11, 0, 4294967295), (11, 0, 4294967295), (11, 0, 4294967295), (11, 0, 4294967295), (11, 0, 4294967295), (11, 0, 4294967295), (11, 0, 4294967295), (11, 0, 4294967295), (11, 0, 4294967295), (11, 2147483648, 2147484647), (11, 0, 4294967295), (11, 0, 4294967295), (11, 0, 4294967295), (11, 0, 4294967295), (11, 0, 4294967295), (11, 0, 4294967295), (11, 0, 4294967295), (11, 0, 4294967295), (11, 0, 4294967295), (11, 0, 4294967295), (11, 0, 4294967295), (11, 0, 4294967295), (11, 0, 4294967295), (11, 0, 4294967295), (11, 0, 4294967295), (11, 0, 4294967295), (11, 0, 4294967295), (11, 0, 4294967295), (11, 0, 4294967295), (11, 0, 4294967295), (11, 0, 4294967295), (11, 0, 4294967295), (11, 0, 4294967295), (11, 0, 4294967295), (11, 0, 4294967295), (11, 2147483648, 2147484647), (11, 0, 4294967295), (11, 0, 4294967295), (11, 0, 4294967295), (11, 0, 4294967295), (11, 0, 4294967295), (11, 0, 4294967295), (11, 0, 4294967295), (11, 0, 4294967295), (11, 0, 4294967295), (11, 0, 4294967295), (11, 0, 4294967295), (11, 0, 4294967295), (11, 0, 4294967295), (11, 0, 4294967295), (11, 0, 4294967295), (11, 0, 4294967295), (11, 0, 4294967295), (11, 0, 4294967295), (11, 0, 4294967295), (11, 0, 4294967295), (11, 0, 4294967295), (11, 0, 4294967295), (11, 0, 4294967295), (11, 0, 4294967295), (11, 0, 4294967295), (11, 2147483648, 2147484647)])
def ldn185 : e2_Q1 := (ldc94, ldc95)
def ldc96 : ev_C := (167, [])
def ldn186 : e2_Q1 := (ldc96, ldc3)
def ldn187 : e2_Q2 := (ldn185, ldn186)
def ldc97 : ev_C := (135, [])
def ldn188 : e2_Q1 := (ldc97, ldc3)
def ldn189 : e2_Q2 := (ldn188, ldn4)
def ldn190 : e2_Q3 := (ldn187, ldn189)
def ldc98 : ev_C := (119, [])
def ldn191 : e2_Q1 := (ldc98, ldc3)
def ldc99 : ev_C := (10, [(0, 1, 0), (2, 88, 0), (2, 115, 0), (2, 114, 0), (2, 86, 0), (2, 112, 0), (1, 2, 4294967296), (2, 118, 0), (2, 120, 0), (2, 131, 0), (2, 91, 0), (11, 2147483648, 2147483668), (2, 123, 0), (11, 2147483648, 2147483649), (11, 2147483648, 2147485248), (2, 87, 0), (2, 84, 0), (2, 122, 0), (2, 100, 0), (2, 132, 0), (11, 2147483648, 2147483668), (11, 2147483648, 2147485248), (1, 0, 4294967296), (11, 0, 4294967295), (11, 2147483648, 2147485248), (2, 93, 0), (2, 104, 0), (11, 2147483648, 2147483678), (2, 89, 0), (2, 92, 0), (2, 119, 0), (2, 90, 0), (2, 94, 0), (2, 103, 0), (1, 3, 4294967296), (11, 0, 4294967295), (11, 0, 4294967295), (11, 2147483648, 2147485249), (11, 2147483648, 2147483653), (11, 2147483648, 2147483668), (2, 85, 0), (11, 2147483648, 2147493647), (5, 0, 0), (2, 95, 0), (2, 96, 0), (2, 97, 0), (2, 98, 0), (2, 99, 0), (2, 101, 0), (2, 102, 0), (2, 105, 0), (2, 106, 0), (2, 107, 0), (2, 108, 0), (2, 109, 0), (2, 110, 0), (2, 111, 0), (11, 2147483648, 2147484768), (11, 2147482048, 2147483655), (11, 2147483648, 2147483738), (11, 2147483648, 2147483678), (11, 0, 4294967295), (11, 0, 4294967295), (11, 0, 4294967295), (11, 0, 4294967295), (11, 0, 4294967295), (2, 113, 0), (2, 116, 0), (2, 117, 0), (2, 121, 0), (11, 0, 4294967295), (11, 0, 4294967295), (2, 124, 0), (2, 125, 0), (11, 0, 4294967295), (2, 126, 0), (2, 127, 0), (2, 128, 0), (2, 129, 0), (2, 130, 0)])
def ldn192 : e2_Q1 := (ldc99, ldc3)
def ldn193 : e2_Q2 := (ldn191, ldn192)
def ldc100 : ev_C := (151, [])
def ldn194 : e2_Q1 := (ldc100, ldc3)
def ldn195 : e2_Q2 := (ldn194, ldn72)
def ldn196 : e2_Q3 := (ldn193, ldn195)
def ldn197 : e2_Q4 := (ldn190, ldn196)
def ldc101 : ev_C := (111, [])
def ldn198 : e2_Q1 := (ldc101, ldc3)
def ldc102 : ev_C := (175, [])
def ldn199 : e2_Q1 := (ldc102, ldc3)
def ldn200 : e2_Q2 := (ldn198, ldn199)
def ldc103 : ev_C := (143, [])
def ldn201 : e2_Q1 := (ldc103, ldc3)
def ldc104 : ev_C := (70, [])
def ldn202 : e2_Q1 := (ldc104, ldc3)
def ldn203 : e2_Q2 := (ldn201, ldn202)
def ldn204 : e2_Q3 := (ldn200, ldn203)
def ldc105 : ev_C := (127, [])
def ldn205 : e2_Q1 := (ldc105, ldc3)
def ldn206 : e2_Q2 := (ldn205, ldn84)
def ldc106 : ev_C := (159, [])
def ldn207 : e2_Q1 := (ldc106, ldc3)
def ldc107 : ev_C := (54, [(0, 256, 0), (11, 0, 4294967295)])
def ldn208 : e2_Q1 := (ldc107, ldc3)
def ldn209 : e2_Q2 := (ldn207, ldn208)
def ldn210 : e2_Q3 := (ldn206, ldn209)
def ldn211 : e2_Q4 := (ldn204, ldn210)
def ldn212 : e2_Q5 := (ldn197, ldn211)
def ldc108 : ev_C := (107, [])
def ldn213 : e2_Q1 := (ldc108, ldc3)
def ldc109 : ev_C := (171, [])
def ldn214 : e2_Q1 := (ldc109, ldc3)
def ldn215 : e2_Q2 := (ldn213, ldn214)
def ldc110 : ev_C := (139, [])
def ldn216 : e2_Q1 := (ldc110, ldc3)
def ldc111 : ev_C := (52, [(11, 2147483648, 2147483649), (11, 2147483648, 2147483649)])
def ldn217 : e2_Q1 := (ldc111, ldc3)
def ldn218 : e2_Q2 := (ldn216, ldn217)
def ldn219 : e2_Q3 := (ldn215, ldn218)
def ldc112 : ev_C := (123, [])
def ldn220 : e2_Q1 := (ldc112, ldc3)
def ldc113 : ev_C := (50, [(11, 2147483648, 2147483652), (11, 2147483648, 2147483652)])
def ldn221 : e2_Q1 := (ldc113, ldc3)
def ldn222 : e2_Q2 := (ldn220, ldn221)
def ldc114 : ev_C := (155, [])
def ldn223 : e2_Q1 := (ldc114, ldc3)
def ldn224 : e2_Q2 := (ldn223, ldn149)
def ldn225 : e2_Q3 := (ldn222, ldn224)
def ldn226 : e2_Q4 := (ldn219, ldn225)
def ldc115 : ev_C := (115, [])
def ldn227 : e2_Q1 := (ldc115, ldc3)
def ldc116 : ev_C := (179, [])
def ldn228 : e2_Q1 := (ldc116, ldc3)
def ldn229 : e2_Q2 := (ldn227, ldn228)
def ldc117 : ev_C := (147, [])
def ldn230 : e2_Q1 := (ldc117, ldc3)
def ldc118 : ev_C := (54, [(0, 60, 0), (11, 0, 4294967295)])
def ldn231 : e2_Q1 := (ldc118, ldc3)
def ldn232 : e2_Q2 := (ldn230, ldn231)
def ldn233 : e2_Q3 := (ldn229, ldn232)
def ldc119 : ev_C := (131, [])
def ldn234 : e2_Q1 := (ldc119, ldc3)
def ldc120 : ev_C := (50, [(11, 0, 4294967295), (11, 0, 4294967295), (11, 0, 4294967295), (11, 0, 4294967295), (11, 0, 4294967295), (11, 0, 4294967295), (11, 0, 4294967295), (11, 0, 4294967295)])
def ldn235 : e2_Q1 := (ldc120, ldc3)
def ldn236 : e2_Q2 := (ldn234, ldn235)
def ldc121 : ev_C := (163, [])
def ldn237 : e2_Q1 := (ldc121, ldc3)
def ldn238 : e2_Q2 := (ldn237, ldn117)
def ldn239 : e2_Q3 := (ldn236, ldn238)
def ldn240 : e2_Q4 := (ldn233, ldn239)
def ldn241 : e2_Q5 := (ldn226, ldn240)
def ldn242 : e2_Q6 := (ldn212, ldn241)
def ldn243 : e2_Q7 := (ldn184, ldn242)
def ldn244 : e2_Q8 := (ldn123, ldn243)
noncomputable def h_ld0 : ev_H := (ldn244 : e2_Q8)
def ldc122 : ev_C := (50, [(11, 2147483648, 2147483656), (11, 2147483648, 2147483656)])
def ldn245 : e2_Q1 := (ldc122, ldc3)
def ldn246 : e2_Q2 := (ldn22, ldn245)
def ldn247 : e2_Q3 := (ldn246, ldn26)
def ldn248 : e2_Q4 := (ldn21, ldn247)
def ldn249 : e2_Q5 := (ldn14, ldn248)
def ldn250 : e2_Q6 := (ldn249, ldn59)
def ldn251 : e2_Q7 := (ldn250, ldn122)
def ldc123 : ev_C := (50, [(11, 2147483648, 2147483654), (11, 2147483648, 2147483654), (11, 2147483648, 2147483654), (11, 2147483648, 2147483654), (11, 2147483648, 2147483654), (11, 2147483648, 2147483654), (11, 2147483648, 2147483654), (11, 2147483648, 2147483654), (11, 2147483648, 2147483654), (11, 2147483648, 2147483654), (11, 2147483648, 2147483654), (11, 2147483648, 2147483654), (11, 2147483648, 2147483654), (11, 2147483648, 2147483654), (11, 2147483648, 2147483654), (11, 2147483648, 2147483654)])
def ldn252 : e2_Q1 := (ldc123, ldc3)
def ldn253 : e2_Q2 := (ldn127, ldn252)
def ldn254 : e2_Q3 := (ldn126, ldn253)
def ldn255 : e2_Q4 := (ldn254, ldn137)
def ldn256 : e2_Q5 := (ldn255, ldn152)
def ldn257 : e2_Q6 := (ldn256, ldn183)
def ldc124 : ev_C := (10, [(0, 1, 0), (2, 88, 0), (2, 115, 0), (2, 114, 0), (2, 86, 0), (2, 112, 0), (11, 2147483648, 2147483688), (2, 118, 0), (2, 120, 0), (2, 131, 0), (2, 91, 0), (11, 2147483648, 2147483668), (2, 123, 0), (11, 2147483648, 2147483649), (11, 2147483648, 2147485248), (2, 87, 0), (2, 84, 0), (2, 122, 0), (2, 100, 0), (2, 132, 0), (11, 2147483648, 2147483668), (11, 2147483648, 2147485248), (1, 0, 4294967296), (11, 0, 4294967295), (11, 2147483648, 2147485248), (2, 93, 0), (2, 104, 0), (11, 2147483648, 2147483678), (2, 89, 0), (2, 92, 0), (2, 119, 0), (2, 90, 0), (2, 94, 0), (2, 103, 0), (11, 2147483648, 2147483688), (11, 0, 4294967295), (11, 0, 4294967295), (11, 2147483648, 2147485249), (11, 2147483648, 2147483653), (11, 2147483648, 2147483668), (2, 85, 0), (11, 2147483648, 2147493647), (5, 0, 0), (2, 95, 0), (2, 96, 0), (2, 97, 0), (2, 98, 0), (2, 99, 0), (2, 101, 0), (2, 102, 0), (2, 105, 0), (2, 106, 0), (2, 107, 0), (2, 108, 0), (2, 109, 0), (2, 110, 0), (2, 111, 0), (11, 2147483648, 2147484768), (11, 2147482048, 2147483655), (11, 2147483648, 2147483738), (11, 2147483648, 2147483678), (11, 0, 4294967295), (11, 0, 4294967295), (11, 0, 4294967295), (11, 0, 4294967295), (11, 0, 4294967295), (2, 113, 0), (2, 116, 0), (2, 117, 0), (2, 121, 0), (11, 0, 4294967295), (11, 0, 4294967295), (2, 124, 0), (2, 125, 0), (11, 0, 4294967295), (2, 126, 0), (2, 127, 0), (2, 128, 0), (2, 129, 0), (2, 130, 0)])
def ldn258 : e2_Q1 := (ldc124, ldc3)
def ldn259 : e2_Q2 := (ldn191, ldn258)
def ldn260 : e2_Q3 := (ldn259, ldn195)
def ldn261 : e2_Q4 := (ldn190, ldn260)
def ldn262 : e2_Q5 := (ldn261, ldn211)
def ldn263 : e2_Q6 := (ldn262, ldn241)
def ldn264 : e2_Q7 := (ldn257, ldn263)
def ldn265 : e2_Q8 := (ldn251, ldn264)
noncomputable def h_wd0 : ev_H := (ldn265 : e2_Q8)
def ldc125 : ev_C := (10, [(0, 1, 0), (2, 88, 0), (2, 115, 0), (2, 114, 0), (2, 86, 0), (2, 112, 0), (11, 2147483648, 2147483688), (2, 118, 0), (2, 120, 0), (2, 131, 0), (2, 91, 0), (11, 2147483648, 2147483668), (2, 123, 0), (11, 2147483648, 2147483649), (11, 2147483648, 2147485248), (2, 87, 0), (2, 84, 0), (2, 122, 0), (2, 100, 0), (2, 132, 0), (11, 2147483648, 2147483668), (11, 2147483648, 2147485248), (1, 0, 4294967296), (11, 0, 4294967295), (11, 2147483648, 2147485248), (2, 93, 0), (2, 104, 0), (11, 2147483648, 2147483678), (2, 89, 0), (2, 92, 0), (2, 119, 0), (2, 90, 0), (2, 94, 0), (2, 103, 0), (0, 0, 0), (11, 0, 4294967295), (11, 0, 4294967295), (11, 2147483648, 2147485249), (11, 2147483648, 2147483653), (11, 2147483648, 2147483668), (2, 85, 0), (11, 2147483648, 2147493647), (5, 0, 0), (2, 95, 0), (2, 96, 0), (2, 97, 0), (2, 98, 0), (2, 99, 0), (2, 101, 0), (2, 102, 0), (2, 105, 0), (2, 106, 0), (2, 107, 0), (2, 108, 0), (2, 109, 0), (2, 110, 0), (2, 111, 0), (11, 2147483648, 2147484768), (11, 2147482048, 2147483655), (11, 2147483648, 2147483738), (11, 2147483648, 2147483678), (11, 0, 4294967295), (11, 0, 4294967295), (11, 0, 4294967295), (11, 0, 4294967295), (11, 0, 4294967295), (2, 113, 0), (2, 116, 0), (2, 117, 0), (2, 121, 0), (11, 0, 4294967295), (11, 0, 4294967295), (2, 124, 0), (2, 125, 0), (11, 0, 4294967295), (2, 126, 0), (2, 127, 0), (2, 128, 0), (2, 129, 0), (2, 130, 0)])
def ldn266 : e2_Q1 := (ldc125, ldc3)
def ldn267 : e2_Q2 := (ldn191, ldn266)
def ldn268 : e2_Q3 := (ldn267, ldn195)
def ldn269 : e2_Q4 := (ldn190, ldn268)
def ldn270 : e2_Q5 := (ldn269, ldn211)
def ldn271 : e2_Q6 := (ldn270, ldn241)
def ldn272 : e2_Q7 := (ldn184, ldn271)
def ldn273 : e2_Q8 := (ldn123, ldn272)
noncomputable def h_ld0k : ev_H := (ldn273 : e2_Q8)
def as_l_feed_d0 : List ev_V := [(2, 83, 0), (11, 0, 4294967295), (11, 0, 4294967295), (11, 0, 4294967295), (11, 0, 4294967295), (11, 0, 4294967295)]
noncomputable def rs_l_feed_d0 : e2_Rs := [((11, 0, 4294967295), h_ld0)]
noncomputable def S_l_feed_d0 : List e2_Sm := [s_d240]
noncomputable def I_l_feed_d0 : List e2_In := []
set_option maxRecDepth 1000000 in
theorem ck_l_feed_d0 : e2_cal S_l_feed_d0 I_l_feed_d0 4000 0 289 as_l_feed_d0 E_ld h_ld0 (e2_fin rs_l_feed_d0) = true := by decide +kernel
theorem lp_feed_d0 (hen : en_ok) (l : Launch) : ∀ d, 260 ≤ d → ∀ M, e2_MT[289]? = some M → e2_Met l M d as_l_feed_d0 E_ld h_ld0 (e2_fin rs_l_feed_d0) := fun d hd M hM => e2_cal_ok (S := S_l_feed_d0) (I := I_l_feed_d0) (H := 250) (fuel := 4000) hen (e2_fa ((cs_d240 hen l).mono (by decide)) e2_fz) e2_fz 0 d (by omega) 289 M hM _ _ _ _ ck_l_feed_d0
def as_l_end_d0 : List ev_V := [(2, 83, 0), (11, 0, 4294967295)]
noncomputable def rs_l_end_d0 : e2_Rs := [((11, 0, 4294967295), h_ld0)]
noncomputable def S_l_end_d0 : List e2_Sm := []
noncomputable def I_l_end_d0 : List e2_In := [(290, 2, e2x_290)]
set_option maxRecDepth 1000000 in
theorem ck_l_end_d0 : e2_cal S_l_end_d0 I_l_end_d0 4000 1 290 as_l_end_d0 E_ld h_ld0 (e2_fin rs_l_end_d0) = true := by decide +kernel
theorem lp_end_d0 (hen : en_ok) (l : Launch) : ∀ d, 260 ≤ d → ∀ M, e2_MT[290]? = some M → e2_Met l M d as_l_end_d0 E_ld h_ld0 (e2_fin rs_l_end_d0) := fun d hd M hM => e2_cal_ok (S := S_l_end_d0) (I := I_l_end_d0) (H := 250) (fuel := 4000) hen e2_fz (e2_fa ein_290 e2_fz) 1 d (by omega) 290 M hM _ _ _ _ ck_l_end_d0
def as_l_fault_d0 : List ev_V := [(2, 83, 0), (11, 0, 4294967295)]
noncomputable def rs_l_fault_d0 : e2_Rs := [((11, 0, 4294967295), h_ld0)]
noncomputable def S_l_fault_d0 : List e2_Sm := []
noncomputable def I_l_fault_d0 : List e2_In := [(211, 2, e2x_211)]
set_option maxRecDepth 1000000 in
theorem ck_l_fault_d0 : e2_cal S_l_fault_d0 I_l_fault_d0 4000 1 211 as_l_fault_d0 E_ld h_ld0 (e2_fin rs_l_fault_d0) = true := by decide +kernel
theorem lp_fault_d0 (hen : en_ok) (l : Launch) : ∀ d, 260 ≤ d → ∀ M, e2_MT[211]? = some M → e2_Met l M d as_l_fault_d0 E_ld h_ld0 (e2_fin rs_l_fault_d0) := fun d hd M hM => e2_cal_ok (S := S_l_fault_d0) (I := I_l_fault_d0) (H := 250) (fuel := 4000) hen e2_fz (e2_fa ein_211 e2_fz) 1 d (by omega) 211 M hM _ _ _ _ ck_l_fault_d0
def as_l_thing_d0 : List ev_V := [(2, 83, 0), (11, 0, 4294967295)]
noncomputable def rs_l_thing_d0 : e2_Rs := [((11, 0, 4294967295), h_ld0)]
noncomputable def S_l_thing_d0 : List e2_Sm := []
noncomputable def I_l_thing_d0 : List e2_In := [(212, 3, e2x_212), (220, 2, e2x_220), (236, 2, e2x_236)]
set_option maxRecDepth 1000000 in
theorem ck_l_thing_d0 : e2_cal S_l_thing_d0 I_l_thing_d0 4000 3 236 as_l_thing_d0 E_ld h_ld0 (e2_fin rs_l_thing_d0) = true := by decide +kernel
theorem lp_thing_d0 (hen : en_ok) (l : Launch) : ∀ d, 260 ≤ d → ∀ M, e2_MT[236]? = some M → e2_Met l M d as_l_thing_d0 E_ld h_ld0 (e2_fin rs_l_thing_d0) := fun d hd M hM => e2_cal_ok (S := S_l_thing_d0) (I := I_l_thing_d0) (H := 250) (fuel := 4000) hen e2_fz (e2_fa ein_212 (e2_fa ein_220 (e2_fa ein_236 e2_fz))) 3 d (by omega) 236 M hM _ _ _ _ ck_l_thing_d0
def as_l_glyph_d0 : List ev_V := [(2, 83, 0), (11, 0, 4294967295), (11, 0, 4294967295)]
noncomputable def rs_l_glyph_d0 : e2_Rs := [((11, 0, 4294967295), h_ld0)]
noncomputable def S_l_glyph_d0 : List e2_Sm := [s_d135]
noncomputable def I_l_glyph_d0 : List e2_In := []
set_option maxRecDepth 1000000 in
theorem ck_l_glyph_d0 : e2_cal S_l_glyph_d0 I_l_glyph_d0 4000 0 237 as_l_glyph_d0 E_ld h_ld0 (e2_fin rs_l_glyph_d0) = true := by decide +kernel
theorem lp_glyph_d0 (hen : en_ok) (l : Launch) : ∀ d, 260 ≤ d → ∀ M, e2_MT[237]? = some M → e2_Met l M d as_l_glyph_d0 E_ld h_ld0 (e2_fin rs_l_glyph_d0) := fun d hd M hM => e2_cal_ok (S := S_l_glyph_d0) (I := I_l_glyph_d0) (H := 250) (fuel := 4000) hen (e2_fa ((cs_d135 hen l).mono (by decide)) e2_fz) e2_fz 0 d (by omega) 237 M hM _ _ _ _ ck_l_glyph_d0
def as_l_plot_d0 : List ev_V := [(2, 83, 0), (11, 0, 4294967295), (11, 0, 4294967295)]
noncomputable def rs_l_plot_d0 : e2_Rs := [((11, 0, 4294967295), h_ld0)]
noncomputable def S_l_plot_d0 : List e2_Sm := [s_d146]
noncomputable def I_l_plot_d0 : List e2_In := []
set_option maxRecDepth 1000000 in
theorem ck_l_plot_d0 : e2_cal S_l_plot_d0 I_l_plot_d0 4000 0 240 as_l_plot_d0 E_ld h_ld0 (e2_fin rs_l_plot_d0) = true := by decide +kernel
theorem lp_plot_d0 (hen : en_ok) (l : Launch) : ∀ d, 260 ≤ d → ∀ M, e2_MT[240]? = some M → e2_Met l M d as_l_plot_d0 E_ld h_ld0 (e2_fin rs_l_plot_d0) := fun d hd M hM => e2_cal_ok (S := S_l_plot_d0) (I := I_l_plot_d0) (H := 250) (fuel := 4000) hen (e2_fa ((cs_d146 hen l).mono (by decide)) e2_fz) e2_fz 0 d (by omega) 240 M hM _ _ _ _ ck_l_plot_d0
def as_l_mow_d0 : List ev_V := [(2, 83, 0), (11, 0, 4294967295)]
noncomputable def rs_l_mow_d0 : e2_Rs := [((11, 0, 4294967295), h_ld0), ((11, 0, 4294967295), h_ld0k)]
noncomputable def S_l_mow_d0 : List e2_Sm := [s_d150]
noncomputable def I_l_mow_d0 : List e2_In := []
set_option maxRecDepth 1000000 in
theorem ck_l_mow_d0 : e2_cal S_l_mow_d0 I_l_mow_d0 4000 0 243 as_l_mow_d0 E_ld h_ld0 (e2_fin rs_l_mow_d0) = true := by decide +kernel
theorem lp_mow_d0 (hen : en_ok) (l : Launch) : ∀ d, 260 ≤ d → ∀ M, e2_MT[243]? = some M → e2_Met l M d as_l_mow_d0 E_ld h_ld0 (e2_fin rs_l_mow_d0) := fun d hd M hM => e2_cal_ok (S := S_l_mow_d0) (I := I_l_mow_d0) (H := 250) (fuel := 4000) hen (e2_fa ((cs_d150 hen l (hands_d hen l)).mono (by decide)) e2_fz) e2_fz 0 d (by omega) 243 M hM _ _ _ _ ck_l_mow_d0
def as_l_sow_d0 : List ev_V := [(2, 83, 0), (11, 0, 4294967295)]
noncomputable def rs_l_sow_d0 : e2_Rs := [((11, 0, 4294967295), h_ld0), ((11, 0, 4294967295), h_ld0k)]
noncomputable def S_l_sow_d0 : List e2_Sm := [s_d151]
noncomputable def I_l_sow_d0 : List e2_In := []
set_option maxRecDepth 1000000 in
theorem ck_l_sow_d0 : e2_cal S_l_sow_d0 I_l_sow_d0 4000 0 244 as_l_sow_d0 E_ld h_ld0 (e2_fin rs_l_sow_d0) = true := by decide +kernel
theorem lp_sow_d0 (hen : en_ok) (l : Launch) : ∀ d, 260 ≤ d → ∀ M, e2_MT[244]? = some M → e2_Met l M d as_l_sow_d0 E_ld h_ld0 (e2_fin rs_l_sow_d0) := fun d hd M hM => e2_cal_ok (S := S_l_sow_d0) (I := I_l_sow_d0) (H := 250) (fuel := 4000) hen (e2_fa ((cs_d151 hen l (hands_d hen l)).mono (by decide)) e2_fz) e2_fz 0 d (by omega) 244 M hM _ _ _ _ ck_l_sow_d0
def as_l_year_d0 : List ev_V := [(2, 83, 0)]
noncomputable def rs_l_year_d0 : e2_Rs := [((11, 0, 4294967295), h_ld0), ((11, 0, 4294967295), h_ld0k)]
noncomputable def S_l_year_d0 : List e2_Sm := [s_d160]
noncomputable def I_l_year_d0 : List e2_In := []
set_option maxRecDepth 1000000 in
theorem ck_l_year_d0 : e2_cal S_l_year_d0 I_l_year_d0 4000 0 246 as_l_year_d0 E_ld h_ld0 (e2_fin rs_l_year_d0) = true := by decide +kernel
theorem lp_year_d0 (hen : en_ok) (l : Launch) : ∀ d, 260 ≤ d → ∀ M, e2_MT[246]? = some M → e2_Met l M d as_l_year_d0 E_ld h_ld0 (e2_fin rs_l_year_d0) := fun d hd M hM => e2_cal_ok (S := S_l_year_d0) (I := I_l_year_d0) (H := 250) (fuel := 4000) hen (e2_fa ((cs_d160 hen l (hands_d hen l)).mono (by decide)) e2_fz) e2_fz 0 d (by omega) 246 M hM _ _ _ _ ck_l_year_d0
def as_l_readings_d0 : List ev_V := [(2, 83, 0)]
noncomputable def rs_l_readings_d0 : e2_Rs := [((11, 0, 4294967295), h_ld0)]
noncomputable def S_l_readings_d0 : List e2_Sm := [s_d164]
noncomputable def I_l_readings_d0 : List e2_In := []
set_option maxRecDepth 1000000 in
theorem ck_l_readings_d0 : e2_cal S_l_readings_d0 I_l_readings_d0 4000 0 249 as_l_readings_d0 E_ld h_ld0 (e2_fin rs_l_readings_d0) = true := by decide +kernel
theorem lp_readings_d0 (hen : en_ok) (l : Launch) : ∀ d, 260 ≤ d → ∀ M, e2_MT[249]? = some M → e2_Met l M d as_l_readings_d0 E_ld h_ld0 (e2_fin rs_l_readings_d0) := fun d hd M hM => e2_cal_ok (S := S_l_readings_d0) (I := I_l_readings_d0) (H := 250) (fuel := 4000) hen (e2_fa ((cs_d164 hen l).mono (by decide)) e2_fz) e2_fz 0 d (by omega) 249 M hM _ _ _ _ ck_l_readings_d0
def as_l_taken_d0 : List ev_V := [(2, 83, 0)]
noncomputable def rs_l_taken_d0 : e2_Rs := [((11, 0, 4294967295), h_ld0)]
noncomputable def S_l_taken_d0 : List e2_Sm := [s_d168]
noncomputable def I_l_taken_d0 : List e2_In := []
set_option maxRecDepth 1000000 in
theorem ck_l_taken_d0 : e2_cal S_l_taken_d0 I_l_taken_d0 4000 0 251 as_l_taken_d0 E_ld h_ld0 (e2_fin rs_l_taken_d0) = true := by decide +kernel
theorem lp_taken_d0 (hen : en_ok) (l : Launch) : ∀ d, 260 ≤ d → ∀ M, e2_MT[251]? = some M → e2_Met l M d as_l_taken_d0 E_ld h_ld0 (e2_fin rs_l_taken_d0) := fun d hd M hM => e2_cal_ok (S := S_l_taken_d0) (I := I_l_taken_d0) (H := 250) (fuel := 4000) hen (e2_fa ((cs_d168 hen l).mono (by decide)) e2_fz) e2_fz 0 d (by omega) 251 M hM _ _ _ _ ck_l_taken_d0
def as_l_weight_d0 : List ev_V := [(2, 83, 0)]
noncomputable def rs_l_weight_d0 : e2_Rs := [((11, 0, 4294967295), h_ld0)]
noncomputable def S_l_weight_d0 : List e2_Sm := [s_d172]
noncomputable def I_l_weight_d0 : List e2_In := []
set_option maxRecDepth 1000000 in
theorem ck_l_weight_d0 : e2_cal S_l_weight_d0 I_l_weight_d0 4000 0 252 as_l_weight_d0 E_ld h_ld0 (e2_fin rs_l_weight_d0) = true := by decide +kernel
theorem lp_weight_d0 (hen : en_ok) (l : Launch) : ∀ d, 260 ≤ d → ∀ M, e2_MT[252]? = some M → e2_Met l M d as_l_weight_d0 E_ld h_ld0 (e2_fin rs_l_weight_d0) := fun d hd M hM => e2_cal_ok (S := S_l_weight_d0) (I := I_l_weight_d0) (H := 250) (fuel := 4000) hen (e2_fa ((cs_d172 hen l).mono (by decide)) e2_fz) e2_fz 0 d (by omega) 252 M hM _ _ _ _ ck_l_weight_d0
def as_l_does_d0 : List ev_V := [(2, 83, 0), (11, 0, 4294967295)]
noncomputable def rs_l_does_d0 : e2_Rs := [((11, 0, 4294967295), h_ld0)]
noncomputable def S_l_does_d0 : List e2_Sm := [s_d176]
noncomputable def I_l_does_d0 : List e2_In := []
set_option maxRecDepth 1000000 in
theorem ck_l_does_d0 : e2_cal S_l_does_d0 I_l_does_d0 4000 0 253 as_l_does_d0 E_ld h_ld0 (e2_fin rs_l_does_d0) = true := by decide +kernel
theorem lp_does_d0 (hen : en_ok) (l : Launch) : ∀ d, 260 ≤ d → ∀ M, e2_MT[253]? = some M → e2_Met l M d as_l_does_d0 E_ld h_ld0 (e2_fin rs_l_does_d0) := fun d hd M hM => e2_cal_ok (S := S_l_does_d0) (I := I_l_does_d0) (H := 250) (fuel := 4000) hen (e2_fa ((cs_d176 hen l).mono (by decide)) e2_fz) e2_fz 0 d (by omega) 253 M hM _ _ _ _ ck_l_does_d0
def as_l_will_d0 : List ev_V := [(2, 83, 0), (11, 0, 4294967295), (11, 0, 4294967295)]
noncomputable def rs_l_will_d0 : e2_Rs := [((11, 0, 4294967295), h_ld0)]
noncomputable def S_l_will_d0 : List e2_Sm := [s_d185]
noncomputable def I_l_will_d0 : List e2_In := []
set_option maxRecDepth 1000000 in
theorem ck_l_will_d0 : e2_cal S_l_will_d0 I_l_will_d0 4000 0 256 as_l_will_d0 E_ld h_ld0 (e2_fin rs_l_will_d0) = true := by decide +kernel
theorem lp_will_d0 (hen : en_ok) (l : Launch) : ∀ d, 260 ≤ d → ∀ M, e2_MT[256]? = some M → e2_Met l M d as_l_will_d0 E_ld h_ld0 (e2_fin rs_l_will_d0) := fun d hd M hM => e2_cal_ok (S := S_l_will_d0) (I := I_l_will_d0) (H := 250) (fuel := 4000) hen (e2_fa ((cs_d185 hen l).mono (by decide)) e2_fz) e2_fz 0 d (by omega) 256 M hM _ _ _ _ ck_l_will_d0
def as_l_field_d0 : List ev_V := [(2, 83, 0), (11, 0, 4294967295)]
noncomputable def rs_l_field_d0 : e2_Rs := [((11, 0, 4294967295), h_ld0)]
noncomputable def S_l_field_d0 : List e2_Sm := [s_d189]
noncomputable def I_l_field_d0 : List e2_In := []
set_option maxRecDepth 1000000 in
theorem ck_l_field_d0 : e2_cal S_l_field_d0 I_l_field_d0 4000 0 257 as_l_field_d0 E_ld h_ld0 (e2_fin rs_l_field_d0) = true := by decide +kernel
theorem lp_field_d0 (hen : en_ok) (l : Launch) : ∀ d, 260 ≤ d → ∀ M, e2_MT[257]? = some M → e2_Met l M d as_l_field_d0 E_ld h_ld0 (e2_fin rs_l_field_d0) := fun d hd M hM => e2_cal_ok (S := S_l_field_d0) (I := I_l_field_d0) (H := 250) (fuel := 4000) hen (e2_fa ((cs_d189 hen l).mono (by decide)) e2_fz) e2_fz 0 d (by omega) 257 M hM _ _ _ _ ck_l_field_d0
def as_l_harm_d0 : List ev_V := [(2, 83, 0)]
noncomputable def rs_l_harm_d0 : e2_Rs := [((11, 0, 4294967295), h_ld0)]
noncomputable def S_l_harm_d0 : List e2_Sm := [s_d193]
noncomputable def I_l_harm_d0 : List e2_In := []
set_option maxRecDepth 1000000 in
theorem ck_l_harm_d0 : e2_cal S_l_harm_d0 I_l_harm_d0 4000 0 258 as_l_harm_d0 E_ld h_ld0 (e2_fin rs_l_harm_d0) = true := by decide +kernel
theorem lp_harm_d0 (hen : en_ok) (l : Launch) : ∀ d, 260 ≤ d → ∀ M, e2_MT[258]? = some M → e2_Met l M d as_l_harm_d0 E_ld h_ld0 (e2_fin rs_l_harm_d0) := fun d hd M hM => e2_cal_ok (S := S_l_harm_d0) (I := I_l_harm_d0) (H := 250) (fuel := 4000) hen (e2_fa ((cs_d193 hen l).mono (by decide)) e2_fz) e2_fz 0 d (by omega) 258 M hM _ _ _ _ ck_l_harm_d0
def as_l_turn_d0 : List ev_V := [(2, 83, 0), (11, 0, 4294967295), (11, 0, 4294967295)]
noncomputable def rs_l_turn_d0 : e2_Rs := [((11, 0, 4294967295), h_ld0)]
noncomputable def S_l_turn_d0 : List e2_Sm := [s_d199]
noncomputable def I_l_turn_d0 : List e2_In := []
set_option maxRecDepth 1000000 in
theorem ck_l_turn_d0 : e2_cal S_l_turn_d0 I_l_turn_d0 4000 0 261 as_l_turn_d0 E_ld h_ld0 (e2_fin rs_l_turn_d0) = true := by decide +kernel
theorem lp_turn_d0 (hen : en_ok) (l : Launch) : ∀ d, 260 ≤ d → ∀ M, e2_MT[261]? = some M → e2_Met l M d as_l_turn_d0 E_ld h_ld0 (e2_fin rs_l_turn_d0) := fun d hd M hM => e2_cal_ok (S := S_l_turn_d0) (I := I_l_turn_d0) (H := 250) (fuel := 4000) hen (e2_fa ((cs_d199 hen l).mono (by decide)) e2_fz) e2_fz 0 d (by omega) 261 M hM _ _ _ _ ck_l_turn_d0
def as_l_plain_d0 : List ev_V := [(2, 83, 0)]
noncomputable def rs_l_plain_d0 : e2_Rs := [((11, 0, 4294967295), h_ld0)]
noncomputable def S_l_plain_d0 : List e2_Sm := [s_d203]
noncomputable def I_l_plain_d0 : List e2_In := []
set_option maxRecDepth 1000000 in
theorem ck_l_plain_d0 : e2_cal S_l_plain_d0 I_l_plain_d0 4000 0 262 as_l_plain_d0 E_ld h_ld0 (e2_fin rs_l_plain_d0) = true := by decide +kernel
theorem lp_plain_d0 (hen : en_ok) (l : Launch) : ∀ d, 260 ≤ d → ∀ M, e2_MT[262]? = some M → e2_Met l M d as_l_plain_d0 E_ld h_ld0 (e2_fin rs_l_plain_d0) := fun d hd M hM => e2_cal_ok (S := S_l_plain_d0) (I := I_l_plain_d0) (H := 250) (fuel := 4000) hen (e2_fa ((cs_d203 hen l).mono (by decide)) e2_fz) e2_fz 0 d (by omega) 262 M hM _ _ _ _ ck_l_plain_d0
def as_l_write_d0 : List ev_V := [(2, 83, 0), (11, 0, 4294967295), (11, 0, 4294967295), (11, 0, 4294967295)]
noncomputable def rs_l_write_d0 : e2_Rs := [((11, 0, 4294967295), h_ld0)]
noncomputable def S_l_write_d0 : List e2_Sm := [s_d213]
noncomputable def I_l_write_d0 : List e2_In := []
set_option maxRecDepth 1000000 in
theorem ck_l_write_d0 : e2_cal S_l_write_d0 I_l_write_d0 4000 0 269 as_l_write_d0 E_ld h_ld0 (e2_fin rs_l_write_d0) = true := by decide +kernel
theorem lp_write_d0 (hen : en_ok) (l : Launch) : ∀ d, 260 ≤ d → ∀ M, e2_MT[269]? = some M → e2_Met l M d as_l_write_d0 E_ld h_ld0 (e2_fin rs_l_write_d0) := fun d hd M hM => e2_cal_ok (S := S_l_write_d0) (I := I_l_write_d0) (H := 250) (fuel := 4000) hen (e2_fa ((cs_d213 hen l (hands_d hen l)).mono (by decide)) e2_fz) e2_fz 0 d (by omega) 269 M hM _ _ _ _ ck_l_write_d0
def as_l_watch_d0 : List ev_V := [(2, 83, 0)]
noncomputable def rs_l_watch_d0 : e2_Rs := [((11, 0, 4294967295), h_ld0)]
noncomputable def S_l_watch_d0 : List e2_Sm := [s_d217]
noncomputable def I_l_watch_d0 : List e2_In := []
set_option maxRecDepth 1000000 in
theorem ck_l_watch_d0 : e2_cal S_l_watch_d0 I_l_watch_d0 4000 0 270 as_l_watch_d0 E_ld h_ld0 (e2_fin rs_l_watch_d0) = true := by decide +kernel
theorem lp_watch_d0 (hen : en_ok) (l : Launch) : ∀ d, 260 ≤ d → ∀ M, e2_MT[270]? = some M → e2_Met l M d as_l_watch_d0 E_ld h_ld0 (e2_fin rs_l_watch_d0) := fun d hd M hM => e2_cal_ok (S := S_l_watch_d0) (I := I_l_watch_d0) (H := 250) (fuel := 4000) hen (e2_fa ((cs_d217 hen l).mono (by decide)) e2_fz) e2_fz 0 d (by omega) 270 M hM _ _ _ _ ck_l_watch_d0
def as_l_cows_d0 : List ev_V := [(2, 83, 0), (11, 0, 4294967295), (11, 0, 4294967295)]
noncomputable def rs_l_cows_d0 : e2_Rs := [((11, 0, 4294967295), h_ld0)]
noncomputable def S_l_cows_d0 : List e2_Sm := [s_d221]
noncomputable def I_l_cows_d0 : List e2_In := []
set_option maxRecDepth 1000000 in
theorem ck_l_cows_d0 : e2_cal S_l_cows_d0 I_l_cows_d0 4000 0 271 as_l_cows_d0 E_ld h_ld0 (e2_fin rs_l_cows_d0) = true := by decide +kernel
theorem lp_cows_d0 (hen : en_ok) (l : Launch) : ∀ d, 260 ≤ d → ∀ M, e2_MT[271]? = some M → e2_Met l M d as_l_cows_d0 E_ld h_ld0 (e2_fin rs_l_cows_d0) := fun d hd M hM => e2_cal_ok (S := S_l_cows_d0) (I := I_l_cows_d0) (H := 250) (fuel := 4000) hen (e2_fa ((cs_d221 hen l (hands_d hen l)).mono (by decide)) e2_fz) e2_fz 0 d (by omega) 271 M hM _ _ _ _ ck_l_cows_d0
def as_l_duel_d0 : List ev_V := [(2, 83, 0), (11, 0, 4294967295), (11, 0, 4294967295), (11, 0, 4294967295), (11, 0, 4294967295)]
noncomputable def rs_l_duel_d0 : e2_Rs := [((11, 0, 4294967295), h_ld0)]
noncomputable def S_l_duel_d0 : List e2_Sm := [s_d227]
noncomputable def I_l_duel_d0 : List e2_In := []
set_option maxRecDepth 1000000 in
theorem ck_l_duel_d0 : e2_cal S_l_duel_d0 I_l_duel_d0 4000 0 274 as_l_duel_d0 E_ld h_ld0 (e2_fin rs_l_duel_d0) = true := by decide +kernel
theorem lp_duel_d0 (hen : en_ok) (l : Launch) : ∀ d, 260 ≤ d → ∀ M, e2_MT[274]? = some M → e2_Met l M d as_l_duel_d0 E_ld h_ld0 (e2_fin rs_l_duel_d0) := fun d hd M hM => e2_cal_ok (S := S_l_duel_d0) (I := I_l_duel_d0) (H := 250) (fuel := 4000) hen (e2_fa ((cs_d227 hen l).mono (by decide)) e2_fz) e2_fz 0 d (by omega) 274 M hM _ _ _ _ ck_l_duel_d0
def as_l_lies_d0 : List ev_V := [(2, 83, 0), (11, 0, 4294967295)]
noncomputable def rs_l_lies_d0 : e2_Rs := [((11, 0, 4294967295), h_ld0)]
noncomputable def S_l_lies_d0 : List e2_Sm := []
noncomputable def I_l_lies_d0 : List e2_In := [(212, 3, e2x_212), (250, 2, e2x_250)]
set_option maxRecDepth 1000000 in
theorem ck_l_lies_d0 : e2_cal S_l_lies_d0 I_l_lies_d0 4000 2 250 as_l_lies_d0 E_ld h_ld0 (e2_fin rs_l_lies_d0) = true := by decide +kernel
theorem lp_lies_d0 (hen : en_ok) (l : Launch) : ∀ d, 260 ≤ d → ∀ M, e2_MT[250]? = some M → e2_Met l M d as_l_lies_d0 E_ld h_ld0 (e2_fin rs_l_lies_d0) := fun d hd M hM => e2_cal_ok (S := S_l_lies_d0) (I := I_l_lies_d0) (H := 250) (fuel := 4000) hen e2_fz (e2_fa ein_212 (e2_fa ein_250 e2_fz)) 2 d (by omega) 250 M hM _ _ _ _ ck_l_lies_d0
def as_l_heard_d0 : List ev_V := [(2, 83, 0), (11, 0, 4294967295), (11, 0, 4294967295), (11, 0, 4294967295), (11, 2147483648, 2147483649)]
noncomputable def rs_l_heard_d0 : e2_Rs := [((11, 0, 4294967295), h_ld0)]
noncomputable def S_l_heard_d0 : List e2_Sm := [s_d231]
noncomputable def I_l_heard_d0 : List e2_In := []
set_option maxRecDepth 1000000 in
theorem ck_l_heard_d0 : e2_cal S_l_heard_d0 I_l_heard_d0 4000 0 278 as_l_heard_d0 E_ld h_ld0 (e2_fin rs_l_heard_d0) = true := by decide +kernel
theorem lp_heard_d0 (hen : en_ok) (l : Launch) : ∀ d, 260 ≤ d → ∀ M, e2_MT[278]? = some M → e2_Met l M d as_l_heard_d0 E_ld h_ld0 (e2_fin rs_l_heard_d0) := fun d hd M hM => e2_cal_ok (S := S_l_heard_d0) (I := I_l_heard_d0) (H := 250) (fuel := 4000) hen (e2_fa ((cs_d231 hen l).mono (by decide)) e2_fz) e2_fz 0 d (by omega) 278 M hM _ _ _ _ ck_l_heard_d0
def as_l_untell_d0 : List ev_V := [(2, 83, 0), (11, 0, 4294967295)]
noncomputable def rs_l_untell_d0 : e2_Rs := [((11, 0, 4294967295), h_ld0)]
noncomputable def S_l_untell_d0 : List e2_Sm := []
noncomputable def I_l_untell_d0 : List e2_In := [(212, 3, e2x_212), (279, 2, e2x_279)]
set_option maxRecDepth 1000000 in
theorem ck_l_untell_d0 : e2_cal S_l_untell_d0 I_l_untell_d0 4000 2 279 as_l_untell_d0 E_ld h_ld0 (e2_fin rs_l_untell_d0) = true := by decide +kernel
theorem lp_untell_d0 (hen : en_ok) (l : Launch) : ∀ d, 260 ≤ d → ∀ M, e2_MT[279]? = some M → e2_Met l M d as_l_untell_d0 E_ld h_ld0 (e2_fin rs_l_untell_d0) := fun d hd M hM => e2_cal_ok (S := S_l_untell_d0) (I := I_l_untell_d0) (H := 250) (fuel := 4000) hen e2_fz (e2_fa ein_212 (e2_fa ein_279 e2_fz)) 2 d (by omega) 279 M hM _ _ _ _ ck_l_untell_d0
def as_l_fit_d0 : List ev_V := [(2, 83, 0), (11, 0, 4294967295)]
noncomputable def rs_l_fit_d0 : e2_Rs := [((11, 0, 4294967295), h_ld0)]
noncomputable def S_l_fit_d0 : List e2_Sm := [s_d234]
noncomputable def I_l_fit_d0 : List e2_In := []
set_option maxRecDepth 1000000 in
theorem ck_l_fit_d0 : e2_cal S_l_fit_d0 I_l_fit_d0 4000 0 283 as_l_fit_d0 E_ld h_ld0 (e2_fin rs_l_fit_d0) = true := by decide +kernel
theorem lp_fit_d0 (hen : en_ok) (l : Launch) : ∀ d, 260 ≤ d → ∀ M, e2_MT[283]? = some M → e2_Met l M d as_l_fit_d0 E_ld h_ld0 (e2_fin rs_l_fit_d0) := fun d hd M hM => e2_cal_ok (S := S_l_fit_d0) (I := I_l_fit_d0) (H := 250) (fuel := 4000) hen (e2_fa ((cs_d234 hen l).mono (by decide)) e2_fz) e2_fz 0 d (by omega) 283 M hM _ _ _ _ ck_l_fit_d0
def as_l_sure_d0 : List ev_V := [(2, 83, 0), (11, 0, 4294967295), (11, 0, 4294967295), (11, 0, 4294967295)]
noncomputable def rs_l_sure_d0 : e2_Rs := [((11, 0, 4294967295), h_ld0)]
noncomputable def S_l_sure_d0 : List e2_Sm := [s_d235]
noncomputable def I_l_sure_d0 : List e2_In := []
set_option maxRecDepth 1000000 in
theorem ck_l_sure_d0 : e2_cal S_l_sure_d0 I_l_sure_d0 4000 0 284 as_l_sure_d0 E_ld h_ld0 (e2_fin rs_l_sure_d0) = true := by decide +kernel
theorem lp_sure_d0 (hen : en_ok) (l : Launch) : ∀ d, 260 ≤ d → ∀ M, e2_MT[284]? = some M → e2_Met l M d as_l_sure_d0 E_ld h_ld0 (e2_fin rs_l_sure_d0) := fun d hd M hM => e2_cal_ok (S := S_l_sure_d0) (I := I_l_sure_d0) (H := 250) (fuel := 4000) hen (e2_fa ((cs_d235 hen l).mono (by decide)) e2_fz) e2_fz 0 d (by omega) 284 M hM _ _ _ _ ck_l_sure_d0
def as_l_ask_d0 : List ev_V := [(2, 83, 0), (11, 0, 4294967295), (11, 0, 4294967295)]
noncomputable def rs_l_ask_d0 : e2_Rs := [((11, 0, 4294967295), h_ld0)]
noncomputable def S_l_ask_d0 : List e2_Sm := [s_d236]
noncomputable def I_l_ask_d0 : List e2_In := []
set_option maxRecDepth 1000000 in
theorem ck_l_ask_d0 : e2_cal S_l_ask_d0 I_l_ask_d0 4000 0 285 as_l_ask_d0 E_ld h_ld0 (e2_fin rs_l_ask_d0) = true := by decide +kernel
theorem lp_ask_d0 (hen : en_ok) (l : Launch) : ∀ d, 260 ≤ d → ∀ M, e2_MT[285]? = some M → e2_Met l M d as_l_ask_d0 E_ld h_ld0 (e2_fin rs_l_ask_d0) := fun d hd M hM => e2_cal_ok (S := S_l_ask_d0) (I := I_l_ask_d0) (H := 250) (fuel := 4000) hen (e2_fa ((cs_d236 hen l).mono (by decide)) e2_fz) e2_fz 0 d (by omega) 285 M hM _ _ _ _ ck_l_ask_d0
def as_l_image_d0 : List ev_V := [(2, 83, 0), (11, 0, 4294967295)]
noncomputable def rs_l_image_d0 : e2_Rs := [((11, 0, 4294967295), h_ld0)]
noncomputable def S_l_image_d0 : List e2_Sm := [s_d237]
noncomputable def I_l_image_d0 : List e2_In := []
set_option maxRecDepth 1000000 in
theorem ck_l_image_d0 : e2_cal S_l_image_d0 I_l_image_d0 4000 0 286 as_l_image_d0 E_ld h_ld0 (e2_fin rs_l_image_d0) = true := by decide +kernel
theorem lp_image_d0 (hen : en_ok) (l : Launch) : ∀ d, 260 ≤ d → ∀ M, e2_MT[286]? = some M → e2_Met l M d as_l_image_d0 E_ld h_ld0 (e2_fin rs_l_image_d0) := fun d hd M hM => e2_cal_ok (S := S_l_image_d0) (I := I_l_image_d0) (H := 250) (fuel := 4000) hen (e2_fa ((cs_d237 hen l).mono (by decide)) e2_fz) e2_fz 0 d (by omega) 286 M hM _ _ _ _ ck_l_image_d0
def as_l_back_d0 : List ev_V := [(2, 83, 0), (11, 0, 4294967295)]
noncomputable def rs_l_back_d0 : e2_Rs := [((11, 0, 4294967295), h_ld0), ((11, 0, 4294967295), h_ld0k)]
noncomputable def S_l_back_d0 : List e2_Sm := [s_d238]
noncomputable def I_l_back_d0 : List e2_In := []
set_option maxRecDepth 1000000 in
theorem ck_l_back_d0 : e2_cal S_l_back_d0 I_l_back_d0 4000 0 287 as_l_back_d0 E_ld h_ld0 (e2_fin rs_l_back_d0) = true := by decide +kernel
theorem lp_back_d0 (hen : en_ok) (l : Launch) : ∀ d, 260 ≤ d → ∀ M, e2_MT[287]? = some M → e2_Met l M d as_l_back_d0 E_ld h_ld0 (e2_fin rs_l_back_d0) := fun d hd M hM => e2_cal_ok (S := S_l_back_d0) (I := I_l_back_d0) (H := 250) (fuel := 4000) hen (e2_fa ((cs_d238 hen l).mono (by decide)) e2_fz) e2_fz 0 d (by omega) 287 M hM _ _ _ _ ck_l_back_d0
def as_l_about_d0 : List ev_V := [(2, 83, 0), (11, 0, 4294967295)]
noncomputable def rs_l_about_d0 : e2_Rs := [((11, 0, 4294967295), h_ld0)]
noncomputable def S_l_about_d0 : List e2_Sm := [s_d239]
noncomputable def I_l_about_d0 : List e2_In := []
set_option maxRecDepth 1000000 in
theorem ck_l_about_d0 : e2_cal S_l_about_d0 I_l_about_d0 4000 0 288 as_l_about_d0 E_ld h_ld0 (e2_fin rs_l_about_d0) = true := by decide +kernel
theorem lp_about_d0 (hen : en_ok) (l : Launch) : ∀ d, 260 ≤ d → ∀ M, e2_MT[288]? = some M → e2_Met l M d as_l_about_d0 E_ld h_ld0 (e2_fin rs_l_about_d0) := fun d hd M hM => e2_cal_ok (S := S_l_about_d0) (I := I_l_about_d0) (H := 250) (fuel := 4000) hen (e2_fa ((cs_d239 hen l).mono (by decide)) e2_fz) e2_fz 0 d (by omega) 288 M hM _ _ _ _ ck_l_about_d0
def ldc126 : ev_C := (52, [(11, 2147483648, 2147483649), (11, 2147483648, 2147483649), (0, 1, 0), (0, 0, 0)])
def ldn274 : e2_Q1 := (ldc126, ldc3)
def ldn275 : e2_Q2 := (ldn18, ldn274)
def ldn276 : e2_Q3 := (ldn17, ldn275)
def ldn277 : e2_Q4 := (ldn276, ldn27)
def ldn278 : e2_Q5 := (ldn14, ldn277)
def ldn279 : e2_Q6 := (ldn278, ldn59)
def ldn280 : e2_Q7 := (ldn279, ldn122)
def ldc127 : ev_C := (71, [])
def ldn281 : e2_Q1 := (ldc127, ldc3)
def ldn282 : e2_Q2 := (ldn201, ldn281)
def ldn283 : e2_Q3 := (ldn200, ldn282)
def ldn284 : e2_Q4 := (ldn283, ldn210)
def ldn285 : e2_Q5 := (ldn197, ldn284)
def ldn286 : e2_Q6 := (ldn285, ldn241)
def ldn287 : e2_Q7 := (ldn184, ldn286)
def ldn288 : e2_Q8 := (ldn280, ldn287)
noncomputable def h_ld1 : ev_H := (ldn288 : e2_Q8)
def ldn289 : e2_Q4 := (ldn276, ldn247)
def ldn290 : e2_Q5 := (ldn14, ldn289)
def ldn291 : e2_Q6 := (ldn290, ldn59)
def ldn292 : e2_Q7 := (ldn291, ldn122)
def ldn293 : e2_Q5 := (ldn261, ldn284)
def ldn294 : e2_Q6 := (ldn293, ldn241)
def ldn295 : e2_Q7 := (ldn257, ldn294)
def ldn296 : e2_Q8 := (ldn292, ldn295)
noncomputable def h_wd1 : ev_H := (ldn296 : e2_Q8)
def ldn297 : e2_Q5 := (ldn269, ldn284)
def ldn298 : e2_Q6 := (ldn297, ldn241)
def ldn299 : e2_Q7 := (ldn184, ldn298)
def ldn300 : e2_Q8 := (ldn280, ldn299)
noncomputable def h_ld1k : ev_H := (ldn300 : e2_Q8)
def as_l_feed_d1 : List ev_V := [(2, 83, 0), (11, 0, 4294967295), (11, 0, 4294967295), (11, 0, 4294967295), (11, 0, 4294967295), (11, 0, 4294967295)]
noncomputable def rs_l_feed_d1 : e2_Rs := [((11, 0, 4294967295), h_ld1)]
noncomputable def S_l_feed_d1 : List e2_Sm := [s_d240]
noncomputable def I_l_feed_d1 : List e2_In := []
set_option maxRecDepth 1000000 in
theorem ck_l_feed_d1 : e2_cal S_l_feed_d1 I_l_feed_d1 4000 0 289 as_l_feed_d1 E_ld h_ld1 (e2_fin rs_l_feed_d1) = true := by decide +kernel
theorem lp_feed_d1 (hen : en_ok) (l : Launch) : ∀ d, 260 ≤ d → ∀ M, e2_MT[289]? = some M → e2_Met l M d as_l_feed_d1 E_ld h_ld1 (e2_fin rs_l_feed_d1) := fun d hd M hM => e2_cal_ok (S := S_l_feed_d1) (I := I_l_feed_d1) (H := 250) (fuel := 4000) hen (e2_fa ((cs_d240 hen l).mono (by decide)) e2_fz) e2_fz 0 d (by omega) 289 M hM _ _ _ _ ck_l_feed_d1
def as_l_end_d1 : List ev_V := [(2, 83, 0), (11, 0, 4294967295)]
noncomputable def rs_l_end_d1 : e2_Rs := [((11, 0, 4294967295), h_ld1)]
noncomputable def S_l_end_d1 : List e2_Sm := []
noncomputable def I_l_end_d1 : List e2_In := [(290, 2, e2x_290)]
set_option maxRecDepth 1000000 in
theorem ck_l_end_d1 : e2_cal S_l_end_d1 I_l_end_d1 4000 1 290 as_l_end_d1 E_ld h_ld1 (e2_fin rs_l_end_d1) = true := by decide +kernel
theorem lp_end_d1 (hen : en_ok) (l : Launch) : ∀ d, 260 ≤ d → ∀ M, e2_MT[290]? = some M → e2_Met l M d as_l_end_d1 E_ld h_ld1 (e2_fin rs_l_end_d1) := fun d hd M hM => e2_cal_ok (S := S_l_end_d1) (I := I_l_end_d1) (H := 250) (fuel := 4000) hen e2_fz (e2_fa ein_290 e2_fz) 1 d (by omega) 290 M hM _ _ _ _ ck_l_end_d1
def as_l_fault_d1 : List ev_V := [(2, 83, 0), (11, 0, 4294967295)]
noncomputable def rs_l_fault_d1 : e2_Rs := [((11, 0, 4294967295), h_ld1)]
noncomputable def S_l_fault_d1 : List e2_Sm := []
noncomputable def I_l_fault_d1 : List e2_In := [(211, 2, e2x_211)]
set_option maxRecDepth 1000000 in
theorem ck_l_fault_d1 : e2_cal S_l_fault_d1 I_l_fault_d1 4000 1 211 as_l_fault_d1 E_ld h_ld1 (e2_fin rs_l_fault_d1) = true := by decide +kernel
theorem lp_fault_d1 (hen : en_ok) (l : Launch) : ∀ d, 260 ≤ d → ∀ M, e2_MT[211]? = some M → e2_Met l M d as_l_fault_d1 E_ld h_ld1 (e2_fin rs_l_fault_d1) := fun d hd M hM => e2_cal_ok (S := S_l_fault_d1) (I := I_l_fault_d1) (H := 250) (fuel := 4000) hen e2_fz (e2_fa ein_211 e2_fz) 1 d (by omega) 211 M hM _ _ _ _ ck_l_fault_d1
def as_l_thing_d1 : List ev_V := [(2, 83, 0), (11, 0, 4294967295)]
noncomputable def rs_l_thing_d1 : e2_Rs := [((11, 0, 4294967295), h_ld1)]
noncomputable def S_l_thing_d1 : List e2_Sm := []
noncomputable def I_l_thing_d1 : List e2_In := [(212, 3, e2x_212), (220, 2, e2x_220), (236, 2, e2x_236)]
set_option maxRecDepth 1000000 in
theorem ck_l_thing_d1 : e2_cal S_l_thing_d1 I_l_thing_d1 4000 3 236 as_l_thing_d1 E_ld h_ld1 (e2_fin rs_l_thing_d1) = true := by decide +kernel
theorem lp_thing_d1 (hen : en_ok) (l : Launch) : ∀ d, 260 ≤ d → ∀ M, e2_MT[236]? = some M → e2_Met l M d as_l_thing_d1 E_ld h_ld1 (e2_fin rs_l_thing_d1) := fun d hd M hM => e2_cal_ok (S := S_l_thing_d1) (I := I_l_thing_d1) (H := 250) (fuel := 4000) hen e2_fz (e2_fa ein_212 (e2_fa ein_220 (e2_fa ein_236 e2_fz))) 3 d (by omega) 236 M hM _ _ _ _ ck_l_thing_d1
def as_l_glyph_d1 : List ev_V := [(2, 83, 0), (11, 0, 4294967295), (11, 0, 4294967295)]
noncomputable def rs_l_glyph_d1 : e2_Rs := [((11, 0, 4294967295), h_ld1)]
noncomputable def S_l_glyph_d1 : List e2_Sm := [s_d137]
noncomputable def I_l_glyph_d1 : List e2_In := []
set_option maxRecDepth 1000000 in
theorem ck_l_glyph_d1 : e2_cal S_l_glyph_d1 I_l_glyph_d1 4000 0 237 as_l_glyph_d1 E_ld h_ld1 (e2_fin rs_l_glyph_d1) = true := by decide +kernel
theorem lp_glyph_d1 (hen : en_ok) (l : Launch) : ∀ d, 260 ≤ d → ∀ M, e2_MT[237]? = some M → e2_Met l M d as_l_glyph_d1 E_ld h_ld1 (e2_fin rs_l_glyph_d1) := fun d hd M hM => e2_cal_ok (S := S_l_glyph_d1) (I := I_l_glyph_d1) (H := 250) (fuel := 4000) hen (e2_fa ((cs_d137 hen l (hands_d hen l)).mono (by decide)) e2_fz) e2_fz 0 d (by omega) 237 M hM _ _ _ _ ck_l_glyph_d1
def as_l_plot_d1 : List ev_V := [(2, 83, 0), (11, 0, 4294967295), (11, 0, 4294967295)]
noncomputable def rs_l_plot_d1 : e2_Rs := [((11, 0, 4294967295), h_ld1)]
noncomputable def S_l_plot_d1 : List e2_Sm := [s_d147]
noncomputable def I_l_plot_d1 : List e2_In := []
set_option maxRecDepth 1000000 in
theorem ck_l_plot_d1 : e2_cal S_l_plot_d1 I_l_plot_d1 4000 0 240 as_l_plot_d1 E_ld h_ld1 (e2_fin rs_l_plot_d1) = true := by decide +kernel
theorem lp_plot_d1 (hen : en_ok) (l : Launch) : ∀ d, 260 ≤ d → ∀ M, e2_MT[240]? = some M → e2_Met l M d as_l_plot_d1 E_ld h_ld1 (e2_fin rs_l_plot_d1) := fun d hd M hM => e2_cal_ok (S := S_l_plot_d1) (I := I_l_plot_d1) (H := 250) (fuel := 4000) hen (e2_fa ((cs_d147 hen l (hands_d hen l)).mono (by decide)) e2_fz) e2_fz 0 d (by omega) 240 M hM _ _ _ _ ck_l_plot_d1
def as_l_mow_d1 : List ev_V := [(2, 83, 0), (11, 0, 4294967295)]
noncomputable def rs_l_mow_d1 : e2_Rs := [((11, 0, 4294967295), h_ld1), ((11, 0, 4294967295), h_ld1k)]
noncomputable def S_l_mow_d1 : List e2_Sm := [s_d150]
noncomputable def I_l_mow_d1 : List e2_In := []
set_option maxRecDepth 1000000 in
theorem ck_l_mow_d1 : e2_cal S_l_mow_d1 I_l_mow_d1 4000 0 243 as_l_mow_d1 E_ld h_ld1 (e2_fin rs_l_mow_d1) = true := by decide +kernel
theorem lp_mow_d1 (hen : en_ok) (l : Launch) : ∀ d, 260 ≤ d → ∀ M, e2_MT[243]? = some M → e2_Met l M d as_l_mow_d1 E_ld h_ld1 (e2_fin rs_l_mow_d1) := fun d hd M hM => e2_cal_ok (S := S_l_mow_d1) (I := I_l_mow_d1) (H := 250) (fuel := 4000) hen (e2_fa ((cs_d150 hen l (hands_d hen l)).mono (by decide)) e2_fz) e2_fz 0 d (by omega) 243 M hM _ _ _ _ ck_l_mow_d1
def as_l_sow_d1 : List ev_V := [(2, 83, 0), (11, 0, 4294967295)]
noncomputable def rs_l_sow_d1 : e2_Rs := [((11, 0, 4294967295), h_ld1), ((11, 0, 4294967295), h_ld1k)]
noncomputable def S_l_sow_d1 : List e2_Sm := [s_d151]
noncomputable def I_l_sow_d1 : List e2_In := []
set_option maxRecDepth 1000000 in
theorem ck_l_sow_d1 : e2_cal S_l_sow_d1 I_l_sow_d1 4000 0 244 as_l_sow_d1 E_ld h_ld1 (e2_fin rs_l_sow_d1) = true := by decide +kernel
theorem lp_sow_d1 (hen : en_ok) (l : Launch) : ∀ d, 260 ≤ d → ∀ M, e2_MT[244]? = some M → e2_Met l M d as_l_sow_d1 E_ld h_ld1 (e2_fin rs_l_sow_d1) := fun d hd M hM => e2_cal_ok (S := S_l_sow_d1) (I := I_l_sow_d1) (H := 250) (fuel := 4000) hen (e2_fa ((cs_d151 hen l (hands_d hen l)).mono (by decide)) e2_fz) e2_fz 0 d (by omega) 244 M hM _ _ _ _ ck_l_sow_d1
def as_l_year_d1 : List ev_V := [(2, 83, 0)]
noncomputable def rs_l_year_d1 : e2_Rs := [((11, 0, 4294967295), h_ld1), ((11, 0, 4294967295), h_ld1k)]
noncomputable def S_l_year_d1 : List e2_Sm := [s_d161]
noncomputable def I_l_year_d1 : List e2_In := []
set_option maxRecDepth 1000000 in
theorem ck_l_year_d1 : e2_cal S_l_year_d1 I_l_year_d1 4000 0 246 as_l_year_d1 E_ld h_ld1 (e2_fin rs_l_year_d1) = true := by decide +kernel
theorem lp_year_d1 (hen : en_ok) (l : Launch) : ∀ d, 260 ≤ d → ∀ M, e2_MT[246]? = some M → e2_Met l M d as_l_year_d1 E_ld h_ld1 (e2_fin rs_l_year_d1) := fun d hd M hM => e2_cal_ok (S := S_l_year_d1) (I := I_l_year_d1) (H := 250) (fuel := 4000) hen (e2_fa ((cs_d161 hen l (hands_d hen l)).mono (by decide)) e2_fz) e2_fz 0 d (by omega) 246 M hM _ _ _ _ ck_l_year_d1
def as_l_readings_d1 : List ev_V := [(2, 83, 0)]
noncomputable def rs_l_readings_d1 : e2_Rs := [((11, 0, 4294967295), h_ld1)]
noncomputable def S_l_readings_d1 : List e2_Sm := [s_d165]
noncomputable def I_l_readings_d1 : List e2_In := []
set_option maxRecDepth 1000000 in
theorem ck_l_readings_d1 : e2_cal S_l_readings_d1 I_l_readings_d1 4000 0 249 as_l_readings_d1 E_ld h_ld1 (e2_fin rs_l_readings_d1) = true := by decide +kernel
theorem lp_readings_d1 (hen : en_ok) (l : Launch) : ∀ d, 260 ≤ d → ∀ M, e2_MT[249]? = some M → e2_Met l M d as_l_readings_d1 E_ld h_ld1 (e2_fin rs_l_readings_d1) := fun d hd M hM => e2_cal_ok (S := S_l_readings_d1) (I := I_l_readings_d1) (H := 250) (fuel := 4000) hen (e2_fa ((cs_d165 hen l (hands_d hen l)).mono (by decide)) e2_fz) e2_fz 0 d (by omega) 249 M hM _ _ _ _ ck_l_readings_d1
def as_l_taken_d1 : List ev_V := [(2, 83, 0)]
noncomputable def rs_l_taken_d1 : e2_Rs := [((11, 0, 4294967295), h_ld1)]
noncomputable def S_l_taken_d1 : List e2_Sm := [s_d169]
noncomputable def I_l_taken_d1 : List e2_In := []
set_option maxRecDepth 1000000 in
theorem ck_l_taken_d1 : e2_cal S_l_taken_d1 I_l_taken_d1 4000 0 251 as_l_taken_d1 E_ld h_ld1 (e2_fin rs_l_taken_d1) = true := by decide +kernel
theorem lp_taken_d1 (hen : en_ok) (l : Launch) : ∀ d, 260 ≤ d → ∀ M, e2_MT[251]? = some M → e2_Met l M d as_l_taken_d1 E_ld h_ld1 (e2_fin rs_l_taken_d1) := fun d hd M hM => e2_cal_ok (S := S_l_taken_d1) (I := I_l_taken_d1) (H := 250) (fuel := 4000) hen (e2_fa ((cs_d169 hen l (hands_d hen l)).mono (by decide)) e2_fz) e2_fz 0 d (by omega) 251 M hM _ _ _ _ ck_l_taken_d1
def as_l_weight_d1 : List ev_V := [(2, 83, 0)]
noncomputable def rs_l_weight_d1 : e2_Rs := [((11, 0, 4294967295), h_ld1)]
noncomputable def S_l_weight_d1 : List e2_Sm := [s_d173]
noncomputable def I_l_weight_d1 : List e2_In := []
set_option maxRecDepth 1000000 in
theorem ck_l_weight_d1 : e2_cal S_l_weight_d1 I_l_weight_d1 4000 0 252 as_l_weight_d1 E_ld h_ld1 (e2_fin rs_l_weight_d1) = true := by decide +kernel
theorem lp_weight_d1 (hen : en_ok) (l : Launch) : ∀ d, 260 ≤ d → ∀ M, e2_MT[252]? = some M → e2_Met l M d as_l_weight_d1 E_ld h_ld1 (e2_fin rs_l_weight_d1) := fun d hd M hM => e2_cal_ok (S := S_l_weight_d1) (I := I_l_weight_d1) (H := 250) (fuel := 4000) hen (e2_fa ((cs_d173 hen l (hands_d hen l)).mono (by decide)) e2_fz) e2_fz 0 d (by omega) 252 M hM _ _ _ _ ck_l_weight_d1
def as_l_does_d1 : List ev_V := [(2, 83, 0), (11, 0, 4294967295)]
noncomputable def rs_l_does_d1 : e2_Rs := [((11, 0, 4294967295), h_ld1)]
noncomputable def S_l_does_d1 : List e2_Sm := [s_d177]
noncomputable def I_l_does_d1 : List e2_In := []
set_option maxRecDepth 1000000 in
theorem ck_l_does_d1 : e2_cal S_l_does_d1 I_l_does_d1 4000 0 253 as_l_does_d1 E_ld h_ld1 (e2_fin rs_l_does_d1) = true := by decide +kernel
theorem lp_does_d1 (hen : en_ok) (l : Launch) : ∀ d, 260 ≤ d → ∀ M, e2_MT[253]? = some M → e2_Met l M d as_l_does_d1 E_ld h_ld1 (e2_fin rs_l_does_d1) := fun d hd M hM => e2_cal_ok (S := S_l_does_d1) (I := I_l_does_d1) (H := 250) (fuel := 4000) hen (e2_fa ((cs_d177 hen l (hands_d hen l)).mono (by decide)) e2_fz) e2_fz 0 d (by omega) 253 M hM _ _ _ _ ck_l_does_d1
def as_l_will_d1 : List ev_V := [(2, 83, 0), (11, 0, 4294967295), (11, 0, 4294967295)]
noncomputable def rs_l_will_d1 : e2_Rs := [((11, 0, 4294967295), h_ld1)]
noncomputable def S_l_will_d1 : List e2_Sm := [s_d186]
noncomputable def I_l_will_d1 : List e2_In := []
set_option maxRecDepth 1000000 in
theorem ck_l_will_d1 : e2_cal S_l_will_d1 I_l_will_d1 4000 0 256 as_l_will_d1 E_ld h_ld1 (e2_fin rs_l_will_d1) = true := by decide +kernel
theorem lp_will_d1 (hen : en_ok) (l : Launch) : ∀ d, 260 ≤ d → ∀ M, e2_MT[256]? = some M → e2_Met l M d as_l_will_d1 E_ld h_ld1 (e2_fin rs_l_will_d1) := fun d hd M hM => e2_cal_ok (S := S_l_will_d1) (I := I_l_will_d1) (H := 250) (fuel := 4000) hen (e2_fa ((cs_d186 hen l (hands_d hen l)).mono (by decide)) e2_fz) e2_fz 0 d (by omega) 256 M hM _ _ _ _ ck_l_will_d1
def as_l_field_d1 : List ev_V := [(2, 83, 0), (11, 0, 4294967295)]
noncomputable def rs_l_field_d1 : e2_Rs := [((11, 0, 4294967295), h_ld1)]
noncomputable def S_l_field_d1 : List e2_Sm := [s_d190]
noncomputable def I_l_field_d1 : List e2_In := []
set_option maxRecDepth 1000000 in
theorem ck_l_field_d1 : e2_cal S_l_field_d1 I_l_field_d1 4000 0 257 as_l_field_d1 E_ld h_ld1 (e2_fin rs_l_field_d1) = true := by decide +kernel
theorem lp_field_d1 (hen : en_ok) (l : Launch) : ∀ d, 260 ≤ d → ∀ M, e2_MT[257]? = some M → e2_Met l M d as_l_field_d1 E_ld h_ld1 (e2_fin rs_l_field_d1) := fun d hd M hM => e2_cal_ok (S := S_l_field_d1) (I := I_l_field_d1) (H := 250) (fuel := 4000) hen (e2_fa ((cs_d190 hen l (hands_d hen l)).mono (by decide)) e2_fz) e2_fz 0 d (by omega) 257 M hM _ _ _ _ ck_l_field_d1
def as_l_harm_d1 : List ev_V := [(2, 83, 0)]
noncomputable def rs_l_harm_d1 : e2_Rs := [((11, 0, 4294967295), h_ld1)]
noncomputable def S_l_harm_d1 : List e2_Sm := [s_d194]
noncomputable def I_l_harm_d1 : List e2_In := []
set_option maxRecDepth 1000000 in
theorem ck_l_harm_d1 : e2_cal S_l_harm_d1 I_l_harm_d1 4000 0 258 as_l_harm_d1 E_ld h_ld1 (e2_fin rs_l_harm_d1) = true := by decide +kernel
theorem lp_harm_d1 (hen : en_ok) (l : Launch) : ∀ d, 260 ≤ d → ∀ M, e2_MT[258]? = some M → e2_Met l M d as_l_harm_d1 E_ld h_ld1 (e2_fin rs_l_harm_d1) := fun d hd M hM => e2_cal_ok (S := S_l_harm_d1) (I := I_l_harm_d1) (H := 250) (fuel := 4000) hen (e2_fa ((cs_d194 hen l (hands_d hen l)).mono (by decide)) e2_fz) e2_fz 0 d (by omega) 258 M hM _ _ _ _ ck_l_harm_d1
def as_l_turn_d1 : List ev_V := [(2, 83, 0), (11, 0, 4294967295), (11, 0, 4294967295)]
noncomputable def rs_l_turn_d1 : e2_Rs := [((11, 0, 4294967295), h_ld1)]
noncomputable def S_l_turn_d1 : List e2_Sm := [s_d200]
noncomputable def I_l_turn_d1 : List e2_In := []
set_option maxRecDepth 1000000 in
theorem ck_l_turn_d1 : e2_cal S_l_turn_d1 I_l_turn_d1 4000 0 261 as_l_turn_d1 E_ld h_ld1 (e2_fin rs_l_turn_d1) = true := by decide +kernel
theorem lp_turn_d1 (hen : en_ok) (l : Launch) : ∀ d, 260 ≤ d → ∀ M, e2_MT[261]? = some M → e2_Met l M d as_l_turn_d1 E_ld h_ld1 (e2_fin rs_l_turn_d1) := fun d hd M hM => e2_cal_ok (S := S_l_turn_d1) (I := I_l_turn_d1) (H := 250) (fuel := 4000) hen (e2_fa ((cs_d200 hen l (hands_d hen l)).mono (by decide)) e2_fz) e2_fz 0 d (by omega) 261 M hM _ _ _ _ ck_l_turn_d1
def as_l_plain_d1 : List ev_V := [(2, 83, 0)]
noncomputable def rs_l_plain_d1 : e2_Rs := [((11, 0, 4294967295), h_ld1)]
noncomputable def S_l_plain_d1 : List e2_Sm := [s_d204]
noncomputable def I_l_plain_d1 : List e2_In := []
set_option maxRecDepth 1000000 in
theorem ck_l_plain_d1 : e2_cal S_l_plain_d1 I_l_plain_d1 4000 0 262 as_l_plain_d1 E_ld h_ld1 (e2_fin rs_l_plain_d1) = true := by decide +kernel
theorem lp_plain_d1 (hen : en_ok) (l : Launch) : ∀ d, 260 ≤ d → ∀ M, e2_MT[262]? = some M → e2_Met l M d as_l_plain_d1 E_ld h_ld1 (e2_fin rs_l_plain_d1) := fun d hd M hM => e2_cal_ok (S := S_l_plain_d1) (I := I_l_plain_d1) (H := 250) (fuel := 4000) hen (e2_fa ((cs_d204 hen l (hands_d hen l)).mono (by decide)) e2_fz) e2_fz 0 d (by omega) 262 M hM _ _ _ _ ck_l_plain_d1
def as_l_write_d1 : List ev_V := [(2, 83, 0), (11, 0, 4294967295), (11, 0, 4294967295), (11, 0, 4294967295)]
noncomputable def rs_l_write_d1 : e2_Rs := [((11, 0, 4294967295), h_ld1)]
noncomputable def S_l_write_d1 : List e2_Sm := [s_d214]
noncomputable def I_l_write_d1 : List e2_In := []
set_option maxRecDepth 1000000 in
theorem ck_l_write_d1 : e2_cal S_l_write_d1 I_l_write_d1 4000 0 269 as_l_write_d1 E_ld h_ld1 (e2_fin rs_l_write_d1) = true := by decide +kernel
theorem lp_write_d1 (hen : en_ok) (l : Launch) : ∀ d, 260 ≤ d → ∀ M, e2_MT[269]? = some M → e2_Met l M d as_l_write_d1 E_ld h_ld1 (e2_fin rs_l_write_d1) := fun d hd M hM => e2_cal_ok (S := S_l_write_d1) (I := I_l_write_d1) (H := 250) (fuel := 4000) hen (e2_fa ((cs_d214 hen l (hands_d hen l)).mono (by decide)) e2_fz) e2_fz 0 d (by omega) 269 M hM _ _ _ _ ck_l_write_d1
def as_l_watch_d1 : List ev_V := [(2, 83, 0)]
noncomputable def rs_l_watch_d1 : e2_Rs := [((11, 0, 4294967295), h_ld1)]
noncomputable def S_l_watch_d1 : List e2_Sm := [s_d218]
noncomputable def I_l_watch_d1 : List e2_In := []
set_option maxRecDepth 1000000 in
theorem ck_l_watch_d1 : e2_cal S_l_watch_d1 I_l_watch_d1 4000 0 270 as_l_watch_d1 E_ld h_ld1 (e2_fin rs_l_watch_d1) = true := by decide +kernel
theorem lp_watch_d1 (hen : en_ok) (l : Launch) : ∀ d, 260 ≤ d → ∀ M, e2_MT[270]? = some M → e2_Met l M d as_l_watch_d1 E_ld h_ld1 (e2_fin rs_l_watch_d1) := fun d hd M hM => e2_cal_ok (S := S_l_watch_d1) (I := I_l_watch_d1) (H := 250) (fuel := 4000) hen (e2_fa ((cs_d218 hen l (hands_d hen l)).mono (by decide)) e2_fz) e2_fz 0 d (by omega) 270 M hM _ _ _ _ ck_l_watch_d1
def as_l_cows_d1 : List ev_V := [(2, 83, 0), (11, 0, 4294967295), (11, 0, 4294967295)]
noncomputable def rs_l_cows_d1 : e2_Rs := [((11, 0, 4294967295), h_ld1)]
noncomputable def S_l_cows_d1 : List e2_Sm := [s_d222]
noncomputable def I_l_cows_d1 : List e2_In := []
set_option maxRecDepth 1000000 in
theorem ck_l_cows_d1 : e2_cal S_l_cows_d1 I_l_cows_d1 4000 0 271 as_l_cows_d1 E_ld h_ld1 (e2_fin rs_l_cows_d1) = true := by decide +kernel
theorem lp_cows_d1 (hen : en_ok) (l : Launch) : ∀ d, 260 ≤ d → ∀ M, e2_MT[271]? = some M → e2_Met l M d as_l_cows_d1 E_ld h_ld1 (e2_fin rs_l_cows_d1) := fun d hd M hM => e2_cal_ok (S := S_l_cows_d1) (I := I_l_cows_d1) (H := 250) (fuel := 4000) hen (e2_fa ((cs_d222 hen l (hands_d hen l)).mono (by decide)) e2_fz) e2_fz 0 d (by omega) 271 M hM _ _ _ _ ck_l_cows_d1
def as_l_duel_d1 : List ev_V := [(2, 83, 0), (11, 0, 4294967295), (11, 0, 4294967295), (11, 0, 4294967295), (11, 0, 4294967295)]
noncomputable def rs_l_duel_d1 : e2_Rs := [((11, 0, 4294967295), h_ld1)]
noncomputable def S_l_duel_d1 : List e2_Sm := [s_d228]
noncomputable def I_l_duel_d1 : List e2_In := []
set_option maxRecDepth 1000000 in
theorem ck_l_duel_d1 : e2_cal S_l_duel_d1 I_l_duel_d1 4000 0 274 as_l_duel_d1 E_ld h_ld1 (e2_fin rs_l_duel_d1) = true := by decide +kernel
theorem lp_duel_d1 (hen : en_ok) (l : Launch) : ∀ d, 260 ≤ d → ∀ M, e2_MT[274]? = some M → e2_Met l M d as_l_duel_d1 E_ld h_ld1 (e2_fin rs_l_duel_d1) := fun d hd M hM => e2_cal_ok (S := S_l_duel_d1) (I := I_l_duel_d1) (H := 250) (fuel := 4000) hen (e2_fa ((cs_d228 hen l (hands_d hen l)).mono (by decide)) e2_fz) e2_fz 0 d (by omega) 274 M hM _ _ _ _ ck_l_duel_d1
def as_l_lies_d1 : List ev_V := [(2, 83, 0), (11, 0, 4294967295)]
noncomputable def rs_l_lies_d1 : e2_Rs := [((11, 0, 4294967295), h_ld1)]
noncomputable def S_l_lies_d1 : List e2_Sm := []
noncomputable def I_l_lies_d1 : List e2_In := [(212, 3, e2x_212), (250, 2, e2x_250)]
set_option maxRecDepth 1000000 in
theorem ck_l_lies_d1 : e2_cal S_l_lies_d1 I_l_lies_d1 4000 2 250 as_l_lies_d1 E_ld h_ld1 (e2_fin rs_l_lies_d1) = true := by decide +kernel
theorem lp_lies_d1 (hen : en_ok) (l : Launch) : ∀ d, 260 ≤ d → ∀ M, e2_MT[250]? = some M → e2_Met l M d as_l_lies_d1 E_ld h_ld1 (e2_fin rs_l_lies_d1) := fun d hd M hM => e2_cal_ok (S := S_l_lies_d1) (I := I_l_lies_d1) (H := 250) (fuel := 4000) hen e2_fz (e2_fa ein_212 (e2_fa ein_250 e2_fz)) 2 d (by omega) 250 M hM _ _ _ _ ck_l_lies_d1
def as_l_heard_d1 : List ev_V := [(2, 83, 0), (11, 0, 4294967295), (11, 0, 4294967295), (11, 0, 4294967295), (11, 2147483648, 2147483649)]
noncomputable def rs_l_heard_d1 : e2_Rs := [((11, 0, 4294967295), h_ld1)]
noncomputable def S_l_heard_d1 : List e2_Sm := [s_d231]
noncomputable def I_l_heard_d1 : List e2_In := []
set_option maxRecDepth 1000000 in
theorem ck_l_heard_d1 : e2_cal S_l_heard_d1 I_l_heard_d1 4000 0 278 as_l_heard_d1 E_ld h_ld1 (e2_fin rs_l_heard_d1) = true := by decide +kernel
theorem lp_heard_d1 (hen : en_ok) (l : Launch) : ∀ d, 260 ≤ d → ∀ M, e2_MT[278]? = some M → e2_Met l M d as_l_heard_d1 E_ld h_ld1 (e2_fin rs_l_heard_d1) := fun d hd M hM => e2_cal_ok (S := S_l_heard_d1) (I := I_l_heard_d1) (H := 250) (fuel := 4000) hen (e2_fa ((cs_d231 hen l).mono (by decide)) e2_fz) e2_fz 0 d (by omega) 278 M hM _ _ _ _ ck_l_heard_d1
def as_l_untell_d1 : List ev_V := [(2, 83, 0), (11, 0, 4294967295)]
noncomputable def rs_l_untell_d1 : e2_Rs := [((11, 0, 4294967295), h_ld1)]
noncomputable def S_l_untell_d1 : List e2_Sm := []
noncomputable def I_l_untell_d1 : List e2_In := [(212, 3, e2x_212), (279, 2, e2x_279)]
set_option maxRecDepth 1000000 in
theorem ck_l_untell_d1 : e2_cal S_l_untell_d1 I_l_untell_d1 4000 2 279 as_l_untell_d1 E_ld h_ld1 (e2_fin rs_l_untell_d1) = true := by decide +kernel
theorem lp_untell_d1 (hen : en_ok) (l : Launch) : ∀ d, 260 ≤ d → ∀ M, e2_MT[279]? = some M → e2_Met l M d as_l_untell_d1 E_ld h_ld1 (e2_fin rs_l_untell_d1) := fun d hd M hM => e2_cal_ok (S := S_l_untell_d1) (I := I_l_untell_d1) (H := 250) (fuel := 4000) hen e2_fz (e2_fa ein_212 (e2_fa ein_279 e2_fz)) 2 d (by omega) 279 M hM _ _ _ _ ck_l_untell_d1
def as_l_fit_d1 : List ev_V := [(2, 83, 0), (11, 0, 4294967295)]
noncomputable def rs_l_fit_d1 : e2_Rs := [((11, 0, 4294967295), h_ld1)]
noncomputable def S_l_fit_d1 : List e2_Sm := [s_d234]
noncomputable def I_l_fit_d1 : List e2_In := []
set_option maxRecDepth 1000000 in
theorem ck_l_fit_d1 : e2_cal S_l_fit_d1 I_l_fit_d1 4000 0 283 as_l_fit_d1 E_ld h_ld1 (e2_fin rs_l_fit_d1) = true := by decide +kernel
theorem lp_fit_d1 (hen : en_ok) (l : Launch) : ∀ d, 260 ≤ d → ∀ M, e2_MT[283]? = some M → e2_Met l M d as_l_fit_d1 E_ld h_ld1 (e2_fin rs_l_fit_d1) := fun d hd M hM => e2_cal_ok (S := S_l_fit_d1) (I := I_l_fit_d1) (H := 250) (fuel := 4000) hen (e2_fa ((cs_d234 hen l).mono (by decide)) e2_fz) e2_fz 0 d (by omega) 283 M hM _ _ _ _ ck_l_fit_d1
def as_l_sure_d1 : List ev_V := [(2, 83, 0), (11, 0, 4294967295), (11, 0, 4294967295), (11, 0, 4294967295)]
noncomputable def rs_l_sure_d1 : e2_Rs := [((11, 0, 4294967295), h_ld1)]
noncomputable def S_l_sure_d1 : List e2_Sm := [s_d235]
noncomputable def I_l_sure_d1 : List e2_In := []
set_option maxRecDepth 1000000 in
theorem ck_l_sure_d1 : e2_cal S_l_sure_d1 I_l_sure_d1 4000 0 284 as_l_sure_d1 E_ld h_ld1 (e2_fin rs_l_sure_d1) = true := by decide +kernel
theorem lp_sure_d1 (hen : en_ok) (l : Launch) : ∀ d, 260 ≤ d → ∀ M, e2_MT[284]? = some M → e2_Met l M d as_l_sure_d1 E_ld h_ld1 (e2_fin rs_l_sure_d1) := fun d hd M hM => e2_cal_ok (S := S_l_sure_d1) (I := I_l_sure_d1) (H := 250) (fuel := 4000) hen (e2_fa ((cs_d235 hen l).mono (by decide)) e2_fz) e2_fz 0 d (by omega) 284 M hM _ _ _ _ ck_l_sure_d1
def as_l_ask_d1 : List ev_V := [(2, 83, 0), (11, 0, 4294967295), (11, 0, 4294967295)]
noncomputable def rs_l_ask_d1 : e2_Rs := [((11, 0, 4294967295), h_ld1)]
noncomputable def S_l_ask_d1 : List e2_Sm := [s_d236]
noncomputable def I_l_ask_d1 : List e2_In := []
set_option maxRecDepth 1000000 in
theorem ck_l_ask_d1 : e2_cal S_l_ask_d1 I_l_ask_d1 4000 0 285 as_l_ask_d1 E_ld h_ld1 (e2_fin rs_l_ask_d1) = true := by decide +kernel
theorem lp_ask_d1 (hen : en_ok) (l : Launch) : ∀ d, 260 ≤ d → ∀ M, e2_MT[285]? = some M → e2_Met l M d as_l_ask_d1 E_ld h_ld1 (e2_fin rs_l_ask_d1) := fun d hd M hM => e2_cal_ok (S := S_l_ask_d1) (I := I_l_ask_d1) (H := 250) (fuel := 4000) hen (e2_fa ((cs_d236 hen l).mono (by decide)) e2_fz) e2_fz 0 d (by omega) 285 M hM _ _ _ _ ck_l_ask_d1
def as_l_image_d1 : List ev_V := [(2, 83, 0), (11, 0, 4294967295)]
noncomputable def rs_l_image_d1 : e2_Rs := [((11, 0, 4294967295), h_ld1)]
noncomputable def S_l_image_d1 : List e2_Sm := [s_d237]
noncomputable def I_l_image_d1 : List e2_In := []
set_option maxRecDepth 1000000 in
theorem ck_l_image_d1 : e2_cal S_l_image_d1 I_l_image_d1 4000 0 286 as_l_image_d1 E_ld h_ld1 (e2_fin rs_l_image_d1) = true := by decide +kernel
theorem lp_image_d1 (hen : en_ok) (l : Launch) : ∀ d, 260 ≤ d → ∀ M, e2_MT[286]? = some M → e2_Met l M d as_l_image_d1 E_ld h_ld1 (e2_fin rs_l_image_d1) := fun d hd M hM => e2_cal_ok (S := S_l_image_d1) (I := I_l_image_d1) (H := 250) (fuel := 4000) hen (e2_fa ((cs_d237 hen l).mono (by decide)) e2_fz) e2_fz 0 d (by omega) 286 M hM _ _ _ _ ck_l_image_d1
def as_l_back_d1 : List ev_V := [(2, 83, 0), (11, 0, 4294967295)]
noncomputable def rs_l_back_d1 : e2_Rs := [((11, 0, 4294967295), h_ld1), ((11, 0, 4294967295), h_ld1k)]
noncomputable def S_l_back_d1 : List e2_Sm := [s_d238]
noncomputable def I_l_back_d1 : List e2_In := []
set_option maxRecDepth 1000000 in
theorem ck_l_back_d1 : e2_cal S_l_back_d1 I_l_back_d1 4000 0 287 as_l_back_d1 E_ld h_ld1 (e2_fin rs_l_back_d1) = true := by decide +kernel
theorem lp_back_d1 (hen : en_ok) (l : Launch) : ∀ d, 260 ≤ d → ∀ M, e2_MT[287]? = some M → e2_Met l M d as_l_back_d1 E_ld h_ld1 (e2_fin rs_l_back_d1) := fun d hd M hM => e2_cal_ok (S := S_l_back_d1) (I := I_l_back_d1) (H := 250) (fuel := 4000) hen (e2_fa ((cs_d238 hen l).mono (by decide)) e2_fz) e2_fz 0 d (by omega) 287 M hM _ _ _ _ ck_l_back_d1
def as_l_about_d1 : List ev_V := [(2, 83, 0), (11, 0, 4294967295)]
noncomputable def rs_l_about_d1 : e2_Rs := [((11, 0, 4294967295), h_ld1)]
noncomputable def S_l_about_d1 : List e2_Sm := [s_d239]
noncomputable def I_l_about_d1 : List e2_In := []
set_option maxRecDepth 1000000 in
theorem ck_l_about_d1 : e2_cal S_l_about_d1 I_l_about_d1 4000 0 288 as_l_about_d1 E_ld h_ld1 (e2_fin rs_l_about_d1) = true := by decide +kernel
theorem lp_about_d1 (hen : en_ok) (l : Launch) : ∀ d, 260 ≤ d → ∀ M, e2_MT[288]? = some M → e2_Met l M d as_l_about_d1 E_ld h_ld1 (e2_fin rs_l_about_d1) := fun d hd M hM => e2_cal_ok (S := S_l_about_d1) (I := I_l_about_d1) (H := 250) (fuel := 4000) hen (e2_fa ((cs_d239 hen l).mono (by decide)) e2_fz) e2_fz 0 d (by omega) 288 M hM _ _ _ _ ck_l_about_d1
def ldc128 : ev_C := (52, [(11, 2147483648, 2147483649), (11, 2147483648, 2147483649), (0, 0, 0), (0, 1, 0)])
def ldn301 : e2_Q1 := (ldc128, ldc3)
def ldn302 : e2_Q2 := (ldn18, ldn301)
def ldn303 : e2_Q3 := (ldn17, ldn302)
def ldn304 : e2_Q4 := (ldn303, ldn27)
def ldn305 : e2_Q5 := (ldn14, ldn304)
def ldn306 : e2_Q6 := (ldn305, ldn59)
def ldn307 : e2_Q7 := (ldn306, ldn122)
def ldc129 : ev_C := (72, [])
def ldn308 : e2_Q1 := (ldc129, ldc3)
def ldn309 : e2_Q2 := (ldn201, ldn308)
def ldn310 : e2_Q3 := (ldn200, ldn309)
def ldn311 : e2_Q4 := (ldn310, ldn210)
def ldn312 : e2_Q5 := (ldn197, ldn311)
def ldn313 : e2_Q6 := (ldn312, ldn241)
def ldn314 : e2_Q7 := (ldn184, ldn313)
def ldn315 : e2_Q8 := (ldn307, ldn314)
noncomputable def h_ld2 : ev_H := (ldn315 : e2_Q8)
def ldn316 : e2_Q4 := (ldn303, ldn247)
def ldn317 : e2_Q5 := (ldn14, ldn316)
def ldn318 : e2_Q6 := (ldn317, ldn59)
def ldn319 : e2_Q7 := (ldn318, ldn122)
def ldn320 : e2_Q5 := (ldn261, ldn311)
def ldn321 : e2_Q6 := (ldn320, ldn241)
def ldn322 : e2_Q7 := (ldn257, ldn321)
def ldn323 : e2_Q8 := (ldn319, ldn322)
noncomputable def h_wd2 : ev_H := (ldn323 : e2_Q8)
def ldn324 : e2_Q5 := (ldn269, ldn311)
def ldn325 : e2_Q6 := (ldn324, ldn241)
def ldn326 : e2_Q7 := (ldn184, ldn325)
def ldn327 : e2_Q8 := (ldn307, ldn326)
noncomputable def h_ld2k : ev_H := (ldn327 : e2_Q8)
def as_l_feed_d2 : List ev_V := [(2, 83, 0), (11, 0, 4294967295), (11, 0, 4294967295), (11, 0, 4294967295), (11, 0, 4294967295), (11, 0, 4294967295)]
noncomputable def rs_l_feed_d2 : e2_Rs := [((11, 0, 4294967295), h_ld2)]
noncomputable def S_l_feed_d2 : List e2_Sm := [s_d240]
noncomputable def I_l_feed_d2 : List e2_In := []
set_option maxRecDepth 1000000 in
theorem ck_l_feed_d2 : e2_cal S_l_feed_d2 I_l_feed_d2 4000 0 289 as_l_feed_d2 E_ld h_ld2 (e2_fin rs_l_feed_d2) = true := by decide +kernel
theorem lp_feed_d2 (hen : en_ok) (l : Launch) : ∀ d, 260 ≤ d → ∀ M, e2_MT[289]? = some M → e2_Met l M d as_l_feed_d2 E_ld h_ld2 (e2_fin rs_l_feed_d2) := fun d hd M hM => e2_cal_ok (S := S_l_feed_d2) (I := I_l_feed_d2) (H := 250) (fuel := 4000) hen (e2_fa ((cs_d240 hen l).mono (by decide)) e2_fz) e2_fz 0 d (by omega) 289 M hM _ _ _ _ ck_l_feed_d2
def as_l_end_d2 : List ev_V := [(2, 83, 0), (11, 0, 4294967295)]
noncomputable def rs_l_end_d2 : e2_Rs := [((11, 0, 4294967295), h_ld2)]
noncomputable def S_l_end_d2 : List e2_Sm := []
noncomputable def I_l_end_d2 : List e2_In := [(290, 2, e2x_290)]
set_option maxRecDepth 1000000 in
theorem ck_l_end_d2 : e2_cal S_l_end_d2 I_l_end_d2 4000 1 290 as_l_end_d2 E_ld h_ld2 (e2_fin rs_l_end_d2) = true := by decide +kernel
theorem lp_end_d2 (hen : en_ok) (l : Launch) : ∀ d, 260 ≤ d → ∀ M, e2_MT[290]? = some M → e2_Met l M d as_l_end_d2 E_ld h_ld2 (e2_fin rs_l_end_d2) := fun d hd M hM => e2_cal_ok (S := S_l_end_d2) (I := I_l_end_d2) (H := 250) (fuel := 4000) hen e2_fz (e2_fa ein_290 e2_fz) 1 d (by omega) 290 M hM _ _ _ _ ck_l_end_d2
def as_l_fault_d2 : List ev_V := [(2, 83, 0), (11, 0, 4294967295)]
noncomputable def rs_l_fault_d2 : e2_Rs := [((11, 0, 4294967295), h_ld2)]
noncomputable def S_l_fault_d2 : List e2_Sm := []
noncomputable def I_l_fault_d2 : List e2_In := [(211, 2, e2x_211)]
set_option maxRecDepth 1000000 in
theorem ck_l_fault_d2 : e2_cal S_l_fault_d2 I_l_fault_d2 4000 1 211 as_l_fault_d2 E_ld h_ld2 (e2_fin rs_l_fault_d2) = true := by decide +kernel
theorem lp_fault_d2 (hen : en_ok) (l : Launch) : ∀ d, 260 ≤ d → ∀ M, e2_MT[211]? = some M → e2_Met l M d as_l_fault_d2 E_ld h_ld2 (e2_fin rs_l_fault_d2) := fun d hd M hM => e2_cal_ok (S := S_l_fault_d2) (I := I_l_fault_d2) (H := 250) (fuel := 4000) hen e2_fz (e2_fa ein_211 e2_fz) 1 d (by omega) 211 M hM _ _ _ _ ck_l_fault_d2
def as_l_thing_d2 : List ev_V := [(2, 83, 0), (11, 0, 4294967295)]
noncomputable def rs_l_thing_d2 : e2_Rs := [((11, 0, 4294967295), h_ld2)]
noncomputable def S_l_thing_d2 : List e2_Sm := []
noncomputable def I_l_thing_d2 : List e2_In := [(212, 3, e2x_212), (220, 2, e2x_220), (236, 2, e2x_236)]
set_option maxRecDepth 1000000 in
theorem ck_l_thing_d2 : e2_cal S_l_thing_d2 I_l_thing_d2 4000 3 236 as_l_thing_d2 E_ld h_ld2 (e2_fin rs_l_thing_d2) = true := by decide +kernel
theorem lp_thing_d2 (hen : en_ok) (l : Launch) : ∀ d, 260 ≤ d → ∀ M, e2_MT[236]? = some M → e2_Met l M d as_l_thing_d2 E_ld h_ld2 (e2_fin rs_l_thing_d2) := fun d hd M hM => e2_cal_ok (S := S_l_thing_d2) (I := I_l_thing_d2) (H := 250) (fuel := 4000) hen e2_fz (e2_fa ein_212 (e2_fa ein_220 (e2_fa ein_236 e2_fz))) 3 d (by omega) 236 M hM _ _ _ _ ck_l_thing_d2
def as_l_glyph_d2 : List ev_V := [(2, 83, 0), (11, 0, 4294967295), (11, 0, 4294967295)]
noncomputable def rs_l_glyph_d2 : e2_Rs := [((11, 0, 4294967295), h_ld2)]
noncomputable def S_l_glyph_d2 : List e2_Sm := [s_d139]
noncomputable def I_l_glyph_d2 : List e2_In := []
set_option maxRecDepth 1000000 in
theorem ck_l_glyph_d2 : e2_cal S_l_glyph_d2 I_l_glyph_d2 4000 0 237 as_l_glyph_d2 E_ld h_ld2 (e2_fin rs_l_glyph_d2) = true := by decide +kernel
theorem lp_glyph_d2 (hen : en_ok) (l : Launch) : ∀ d, 260 ≤ d → ∀ M, e2_MT[237]? = some M → e2_Met l M d as_l_glyph_d2 E_ld h_ld2 (e2_fin rs_l_glyph_d2) := fun d hd M hM => e2_cal_ok (S := S_l_glyph_d2) (I := I_l_glyph_d2) (H := 250) (fuel := 4000) hen (e2_fa ((cs_d139 hen l).mono (by decide)) e2_fz) e2_fz 0 d (by omega) 237 M hM _ _ _ _ ck_l_glyph_d2
def as_l_plot_d2 : List ev_V := [(2, 83, 0), (11, 0, 4294967295), (11, 0, 4294967295)]
noncomputable def rs_l_plot_d2 : e2_Rs := [((11, 0, 4294967295), h_ld2)]
noncomputable def S_l_plot_d2 : List e2_Sm := [s_d148]
noncomputable def I_l_plot_d2 : List e2_In := []
set_option maxRecDepth 1000000 in
theorem ck_l_plot_d2 : e2_cal S_l_plot_d2 I_l_plot_d2 4000 0 240 as_l_plot_d2 E_ld h_ld2 (e2_fin rs_l_plot_d2) = true := by decide +kernel
theorem lp_plot_d2 (hen : en_ok) (l : Launch) : ∀ d, 260 ≤ d → ∀ M, e2_MT[240]? = some M → e2_Met l M d as_l_plot_d2 E_ld h_ld2 (e2_fin rs_l_plot_d2) := fun d hd M hM => e2_cal_ok (S := S_l_plot_d2) (I := I_l_plot_d2) (H := 250) (fuel := 4000) hen (e2_fa ((cs_d148 hen l).mono (by decide)) e2_fz) e2_fz 0 d (by omega) 240 M hM _ _ _ _ ck_l_plot_d2
def as_l_mow_d2 : List ev_V := [(2, 83, 0), (11, 0, 4294967295)]
noncomputable def rs_l_mow_d2 : e2_Rs := [((11, 0, 4294967295), h_ld2), ((11, 0, 4294967295), h_ld2k)]
noncomputable def S_l_mow_d2 : List e2_Sm := [s_d150]
noncomputable def I_l_mow_d2 : List e2_In := []
set_option maxRecDepth 1000000 in
theorem ck_l_mow_d2 : e2_cal S_l_mow_d2 I_l_mow_d2 4000 0 243 as_l_mow_d2 E_ld h_ld2 (e2_fin rs_l_mow_d2) = true := by decide +kernel
theorem lp_mow_d2 (hen : en_ok) (l : Launch) : ∀ d, 260 ≤ d → ∀ M, e2_MT[243]? = some M → e2_Met l M d as_l_mow_d2 E_ld h_ld2 (e2_fin rs_l_mow_d2) := fun d hd M hM => e2_cal_ok (S := S_l_mow_d2) (I := I_l_mow_d2) (H := 250) (fuel := 4000) hen (e2_fa ((cs_d150 hen l (hands_d hen l)).mono (by decide)) e2_fz) e2_fz 0 d (by omega) 243 M hM _ _ _ _ ck_l_mow_d2
def as_l_sow_d2 : List ev_V := [(2, 83, 0), (11, 0, 4294967295)]
noncomputable def rs_l_sow_d2 : e2_Rs := [((11, 0, 4294967295), h_ld2), ((11, 0, 4294967295), h_ld2k)]
noncomputable def S_l_sow_d2 : List e2_Sm := [s_d151]
noncomputable def I_l_sow_d2 : List e2_In := []
set_option maxRecDepth 1000000 in
theorem ck_l_sow_d2 : e2_cal S_l_sow_d2 I_l_sow_d2 4000 0 244 as_l_sow_d2 E_ld h_ld2 (e2_fin rs_l_sow_d2) = true := by decide +kernel
theorem lp_sow_d2 (hen : en_ok) (l : Launch) : ∀ d, 260 ≤ d → ∀ M, e2_MT[244]? = some M → e2_Met l M d as_l_sow_d2 E_ld h_ld2 (e2_fin rs_l_sow_d2) := fun d hd M hM => e2_cal_ok (S := S_l_sow_d2) (I := I_l_sow_d2) (H := 250) (fuel := 4000) hen (e2_fa ((cs_d151 hen l (hands_d hen l)).mono (by decide)) e2_fz) e2_fz 0 d (by omega) 244 M hM _ _ _ _ ck_l_sow_d2
def as_l_year_d2 : List ev_V := [(2, 83, 0)]
noncomputable def rs_l_year_d2 : e2_Rs := [((11, 0, 4294967295), h_ld2), ((11, 0, 4294967295), h_ld2k)]
noncomputable def S_l_year_d2 : List e2_Sm := [s_d162]
noncomputable def I_l_year_d2 : List e2_In := []
set_option maxRecDepth 1000000 in
theorem ck_l_year_d2 : e2_cal S_l_year_d2 I_l_year_d2 4000 0 246 as_l_year_d2 E_ld h_ld2 (e2_fin rs_l_year_d2) = true := by decide +kernel
theorem lp_year_d2 (hen : en_ok) (l : Launch) : ∀ d, 260 ≤ d → ∀ M, e2_MT[246]? = some M → e2_Met l M d as_l_year_d2 E_ld h_ld2 (e2_fin rs_l_year_d2) := fun d hd M hM => e2_cal_ok (S := S_l_year_d2) (I := I_l_year_d2) (H := 250) (fuel := 4000) hen (e2_fa ((cs_d162 hen l (hands_d hen l)).mono (by decide)) e2_fz) e2_fz 0 d (by omega) 246 M hM _ _ _ _ ck_l_year_d2
def as_l_readings_d2 : List ev_V := [(2, 83, 0)]
noncomputable def rs_l_readings_d2 : e2_Rs := [((11, 0, 4294967295), h_ld2)]
noncomputable def S_l_readings_d2 : List e2_Sm := [s_d166]
noncomputable def I_l_readings_d2 : List e2_In := []
set_option maxRecDepth 1000000 in
theorem ck_l_readings_d2 : e2_cal S_l_readings_d2 I_l_readings_d2 4000 0 249 as_l_readings_d2 E_ld h_ld2 (e2_fin rs_l_readings_d2) = true := by decide +kernel
theorem lp_readings_d2 (hen : en_ok) (l : Launch) : ∀ d, 260 ≤ d → ∀ M, e2_MT[249]? = some M → e2_Met l M d as_l_readings_d2 E_ld h_ld2 (e2_fin rs_l_readings_d2) := fun d hd M hM => e2_cal_ok (S := S_l_readings_d2) (I := I_l_readings_d2) (H := 250) (fuel := 4000) hen (e2_fa ((cs_d166 hen l).mono (by decide)) e2_fz) e2_fz 0 d (by omega) 249 M hM _ _ _ _ ck_l_readings_d2
def as_l_taken_d2 : List ev_V := [(2, 83, 0)]
noncomputable def rs_l_taken_d2 : e2_Rs := [((11, 0, 4294967295), h_ld2)]
noncomputable def S_l_taken_d2 : List e2_Sm := [s_d170]
noncomputable def I_l_taken_d2 : List e2_In := []
set_option maxRecDepth 1000000 in
theorem ck_l_taken_d2 : e2_cal S_l_taken_d2 I_l_taken_d2 4000 0 251 as_l_taken_d2 E_ld h_ld2 (e2_fin rs_l_taken_d2) = true := by decide +kernel
theorem lp_taken_d2 (hen : en_ok) (l : Launch) : ∀ d, 260 ≤ d → ∀ M, e2_MT[251]? = some M → e2_Met l M d as_l_taken_d2 E_ld h_ld2 (e2_fin rs_l_taken_d2) := fun d hd M hM => e2_cal_ok (S := S_l_taken_d2) (I := I_l_taken_d2) (H := 250) (fuel := 4000) hen (e2_fa ((cs_d170 hen l).mono (by decide)) e2_fz) e2_fz 0 d (by omega) 251 M hM _ _ _ _ ck_l_taken_d2
def as_l_weight_d2 : List ev_V := [(2, 83, 0)]
noncomputable def rs_l_weight_d2 : e2_Rs := [((11, 0, 4294967295), h_ld2)]
noncomputable def S_l_weight_d2 : List e2_Sm := [s_d174]
noncomputable def I_l_weight_d2 : List e2_In := []
set_option maxRecDepth 1000000 in
theorem ck_l_weight_d2 : e2_cal S_l_weight_d2 I_l_weight_d2 4000 0 252 as_l_weight_d2 E_ld h_ld2 (e2_fin rs_l_weight_d2) = true := by decide +kernel
theorem lp_weight_d2 (hen : en_ok) (l : Launch) : ∀ d, 260 ≤ d → ∀ M, e2_MT[252]? = some M → e2_Met l M d as_l_weight_d2 E_ld h_ld2 (e2_fin rs_l_weight_d2) := fun d hd M hM => e2_cal_ok (S := S_l_weight_d2) (I := I_l_weight_d2) (H := 250) (fuel := 4000) hen (e2_fa ((cs_d174 hen l).mono (by decide)) e2_fz) e2_fz 0 d (by omega) 252 M hM _ _ _ _ ck_l_weight_d2
def as_l_does_d2 : List ev_V := [(2, 83, 0), (11, 0, 4294967295)]
noncomputable def rs_l_does_d2 : e2_Rs := [((11, 0, 4294967295), h_ld2)]
noncomputable def S_l_does_d2 : List e2_Sm := [s_d178]
noncomputable def I_l_does_d2 : List e2_In := []
set_option maxRecDepth 1000000 in
theorem ck_l_does_d2 : e2_cal S_l_does_d2 I_l_does_d2 4000 0 253 as_l_does_d2 E_ld h_ld2 (e2_fin rs_l_does_d2) = true := by decide +kernel
theorem lp_does_d2 (hen : en_ok) (l : Launch) : ∀ d, 260 ≤ d → ∀ M, e2_MT[253]? = some M → e2_Met l M d as_l_does_d2 E_ld h_ld2 (e2_fin rs_l_does_d2) := fun d hd M hM => e2_cal_ok (S := S_l_does_d2) (I := I_l_does_d2) (H := 250) (fuel := 4000) hen (e2_fa ((cs_d178 hen l).mono (by decide)) e2_fz) e2_fz 0 d (by omega) 253 M hM _ _ _ _ ck_l_does_d2
def as_l_will_d2 : List ev_V := [(2, 83, 0), (11, 0, 4294967295), (11, 0, 4294967295)]
noncomputable def rs_l_will_d2 : e2_Rs := [((11, 0, 4294967295), h_ld2)]
noncomputable def S_l_will_d2 : List e2_Sm := [s_d187]
noncomputable def I_l_will_d2 : List e2_In := []
set_option maxRecDepth 1000000 in
theorem ck_l_will_d2 : e2_cal S_l_will_d2 I_l_will_d2 4000 0 256 as_l_will_d2 E_ld h_ld2 (e2_fin rs_l_will_d2) = true := by decide +kernel
theorem lp_will_d2 (hen : en_ok) (l : Launch) : ∀ d, 260 ≤ d → ∀ M, e2_MT[256]? = some M → e2_Met l M d as_l_will_d2 E_ld h_ld2 (e2_fin rs_l_will_d2) := fun d hd M hM => e2_cal_ok (S := S_l_will_d2) (I := I_l_will_d2) (H := 250) (fuel := 4000) hen (e2_fa ((cs_d187 hen l (hands_d hen l)).mono (by decide)) e2_fz) e2_fz 0 d (by omega) 256 M hM _ _ _ _ ck_l_will_d2
def as_l_field_d2 : List ev_V := [(2, 83, 0), (11, 0, 4294967295)]
noncomputable def rs_l_field_d2 : e2_Rs := [((11, 0, 4294967295), h_ld2)]
noncomputable def S_l_field_d2 : List e2_Sm := [s_d191]
noncomputable def I_l_field_d2 : List e2_In := []
set_option maxRecDepth 1000000 in
theorem ck_l_field_d2 : e2_cal S_l_field_d2 I_l_field_d2 4000 0 257 as_l_field_d2 E_ld h_ld2 (e2_fin rs_l_field_d2) = true := by decide +kernel
theorem lp_field_d2 (hen : en_ok) (l : Launch) : ∀ d, 260 ≤ d → ∀ M, e2_MT[257]? = some M → e2_Met l M d as_l_field_d2 E_ld h_ld2 (e2_fin rs_l_field_d2) := fun d hd M hM => e2_cal_ok (S := S_l_field_d2) (I := I_l_field_d2) (H := 250) (fuel := 4000) hen (e2_fa ((cs_d191 hen l (hands_d hen l)).mono (by decide)) e2_fz) e2_fz 0 d (by omega) 257 M hM _ _ _ _ ck_l_field_d2
def as_l_harm_d2 : List ev_V := [(2, 83, 0)]
noncomputable def rs_l_harm_d2 : e2_Rs := [((11, 0, 4294967295), h_ld2)]
noncomputable def S_l_harm_d2 : List e2_Sm := [s_d195]
noncomputable def I_l_harm_d2 : List e2_In := []
set_option maxRecDepth 1000000 in
theorem ck_l_harm_d2 : e2_cal S_l_harm_d2 I_l_harm_d2 4000 0 258 as_l_harm_d2 E_ld h_ld2 (e2_fin rs_l_harm_d2) = true := by decide +kernel
theorem lp_harm_d2 (hen : en_ok) (l : Launch) : ∀ d, 260 ≤ d → ∀ M, e2_MT[258]? = some M → e2_Met l M d as_l_harm_d2 E_ld h_ld2 (e2_fin rs_l_harm_d2) := fun d hd M hM => e2_cal_ok (S := S_l_harm_d2) (I := I_l_harm_d2) (H := 250) (fuel := 4000) hen (e2_fa ((cs_d195 hen l).mono (by decide)) e2_fz) e2_fz 0 d (by omega) 258 M hM _ _ _ _ ck_l_harm_d2
def as_l_turn_d2 : List ev_V := [(2, 83, 0), (11, 0, 4294967295), (11, 0, 4294967295)]
noncomputable def rs_l_turn_d2 : e2_Rs := [((11, 0, 4294967295), h_ld2)]
noncomputable def S_l_turn_d2 : List e2_Sm := [s_d201]
noncomputable def I_l_turn_d2 : List e2_In := []
set_option maxRecDepth 1000000 in
theorem ck_l_turn_d2 : e2_cal S_l_turn_d2 I_l_turn_d2 4000 0 261 as_l_turn_d2 E_ld h_ld2 (e2_fin rs_l_turn_d2) = true := by decide +kernel
theorem lp_turn_d2 (hen : en_ok) (l : Launch) : ∀ d, 260 ≤ d → ∀ M, e2_MT[261]? = some M → e2_Met l M d as_l_turn_d2 E_ld h_ld2 (e2_fin rs_l_turn_d2) := fun d hd M hM => e2_cal_ok (S := S_l_turn_d2) (I := I_l_turn_d2) (H := 250) (fuel := 4000) hen (e2_fa ((cs_d201 hen l).mono (by decide)) e2_fz) e2_fz 0 d (by omega) 261 M hM _ _ _ _ ck_l_turn_d2
def as_l_plain_d2 : List ev_V := [(2, 83, 0)]
noncomputable def rs_l_plain_d2 : e2_Rs := [((11, 0, 4294967295), h_ld2)]
noncomputable def S_l_plain_d2 : List e2_Sm := [s_d205]
noncomputable def I_l_plain_d2 : List e2_In := []
set_option maxRecDepth 1000000 in
theorem ck_l_plain_d2 : e2_cal S_l_plain_d2 I_l_plain_d2 4000 0 262 as_l_plain_d2 E_ld h_ld2 (e2_fin rs_l_plain_d2) = true := by decide +kernel
theorem lp_plain_d2 (hen : en_ok) (l : Launch) : ∀ d, 260 ≤ d → ∀ M, e2_MT[262]? = some M → e2_Met l M d as_l_plain_d2 E_ld h_ld2 (e2_fin rs_l_plain_d2) := fun d hd M hM => e2_cal_ok (S := S_l_plain_d2) (I := I_l_plain_d2) (H := 250) (fuel := 4000) hen (e2_fa ((cs_d205 hen l).mono (by decide)) e2_fz) e2_fz 0 d (by omega) 262 M hM _ _ _ _ ck_l_plain_d2
def as_l_write_d2 : List ev_V := [(2, 83, 0), (11, 0, 4294967295), (11, 0, 4294967295), (11, 0, 4294967295)]
noncomputable def rs_l_write_d2 : e2_Rs := [((11, 0, 4294967295), h_ld2)]
noncomputable def S_l_write_d2 : List e2_Sm := [s_d215]
noncomputable def I_l_write_d2 : List e2_In := []
set_option maxRecDepth 1000000 in
theorem ck_l_write_d2 : e2_cal S_l_write_d2 I_l_write_d2 4000 0 269 as_l_write_d2 E_ld h_ld2 (e2_fin rs_l_write_d2) = true := by decide +kernel
theorem lp_write_d2 (hen : en_ok) (l : Launch) : ∀ d, 260 ≤ d → ∀ M, e2_MT[269]? = some M → e2_Met l M d as_l_write_d2 E_ld h_ld2 (e2_fin rs_l_write_d2) := fun d hd M hM => e2_cal_ok (S := S_l_write_d2) (I := I_l_write_d2) (H := 250) (fuel := 4000) hen (e2_fa ((cs_d215 hen l (hands_d hen l)).mono (by decide)) e2_fz) e2_fz 0 d (by omega) 269 M hM _ _ _ _ ck_l_write_d2
def as_l_watch_d2 : List ev_V := [(2, 83, 0)]
noncomputable def rs_l_watch_d2 : e2_Rs := [((11, 0, 4294967295), h_ld2)]
noncomputable def S_l_watch_d2 : List e2_Sm := [s_d219]
noncomputable def I_l_watch_d2 : List e2_In := []
set_option maxRecDepth 1000000 in
theorem ck_l_watch_d2 : e2_cal S_l_watch_d2 I_l_watch_d2 4000 0 270 as_l_watch_d2 E_ld h_ld2 (e2_fin rs_l_watch_d2) = true := by decide +kernel
theorem lp_watch_d2 (hen : en_ok) (l : Launch) : ∀ d, 260 ≤ d → ∀ M, e2_MT[270]? = some M → e2_Met l M d as_l_watch_d2 E_ld h_ld2 (e2_fin rs_l_watch_d2) := fun d hd M hM => e2_cal_ok (S := S_l_watch_d2) (I := I_l_watch_d2) (H := 250) (fuel := 4000) hen (e2_fa ((cs_d219 hen l).mono (by decide)) e2_fz) e2_fz 0 d (by omega) 270 M hM _ _ _ _ ck_l_watch_d2
def as_l_cows_d2 : List ev_V := [(2, 83, 0), (11, 0, 4294967295), (11, 0, 4294967295)]
noncomputable def rs_l_cows_d2 : e2_Rs := [((11, 0, 4294967295), h_ld2)]
noncomputable def S_l_cows_d2 : List e2_Sm := [s_d223]
noncomputable def I_l_cows_d2 : List e2_In := []
set_option maxRecDepth 1000000 in
theorem ck_l_cows_d2 : e2_cal S_l_cows_d2 I_l_cows_d2 4000 0 271 as_l_cows_d2 E_ld h_ld2 (e2_fin rs_l_cows_d2) = true := by decide +kernel
theorem lp_cows_d2 (hen : en_ok) (l : Launch) : ∀ d, 260 ≤ d → ∀ M, e2_MT[271]? = some M → e2_Met l M d as_l_cows_d2 E_ld h_ld2 (e2_fin rs_l_cows_d2) := fun d hd M hM => e2_cal_ok (S := S_l_cows_d2) (I := I_l_cows_d2) (H := 250) (fuel := 4000) hen (e2_fa ((cs_d223 hen l (hands_d hen l)).mono (by decide)) e2_fz) e2_fz 0 d (by omega) 271 M hM _ _ _ _ ck_l_cows_d2
def as_l_duel_d2 : List ev_V := [(2, 83, 0), (11, 0, 4294967295), (11, 0, 4294967295), (11, 0, 4294967295), (11, 0, 4294967295)]
noncomputable def rs_l_duel_d2 : e2_Rs := [((11, 0, 4294967295), h_ld2)]
noncomputable def S_l_duel_d2 : List e2_Sm := [s_d229]
noncomputable def I_l_duel_d2 : List e2_In := []
set_option maxRecDepth 1000000 in
theorem ck_l_duel_d2 : e2_cal S_l_duel_d2 I_l_duel_d2 4000 0 274 as_l_duel_d2 E_ld h_ld2 (e2_fin rs_l_duel_d2) = true := by decide +kernel
theorem lp_duel_d2 (hen : en_ok) (l : Launch) : ∀ d, 260 ≤ d → ∀ M, e2_MT[274]? = some M → e2_Met l M d as_l_duel_d2 E_ld h_ld2 (e2_fin rs_l_duel_d2) := fun d hd M hM => e2_cal_ok (S := S_l_duel_d2) (I := I_l_duel_d2) (H := 250) (fuel := 4000) hen (e2_fa ((cs_d229 hen l).mono (by decide)) e2_fz) e2_fz 0 d (by omega) 274 M hM _ _ _ _ ck_l_duel_d2
def as_l_lies_d2 : List ev_V := [(2, 83, 0), (11, 0, 4294967295)]
noncomputable def rs_l_lies_d2 : e2_Rs := [((11, 0, 4294967295), h_ld2)]
noncomputable def S_l_lies_d2 : List e2_Sm := []
noncomputable def I_l_lies_d2 : List e2_In := [(212, 3, e2x_212), (250, 2, e2x_250)]
set_option maxRecDepth 1000000 in
theorem ck_l_lies_d2 : e2_cal S_l_lies_d2 I_l_lies_d2 4000 2 250 as_l_lies_d2 E_ld h_ld2 (e2_fin rs_l_lies_d2) = true := by decide +kernel
theorem lp_lies_d2 (hen : en_ok) (l : Launch) : ∀ d, 260 ≤ d → ∀ M, e2_MT[250]? = some M → e2_Met l M d as_l_lies_d2 E_ld h_ld2 (e2_fin rs_l_lies_d2) := fun d hd M hM => e2_cal_ok (S := S_l_lies_d2) (I := I_l_lies_d2) (H := 250) (fuel := 4000) hen e2_fz (e2_fa ein_212 (e2_fa ein_250 e2_fz)) 2 d (by omega) 250 M hM _ _ _ _ ck_l_lies_d2
def as_l_heard_d2 : List ev_V := [(2, 83, 0), (11, 0, 4294967295), (11, 0, 4294967295), (11, 0, 4294967295), (11, 2147483648, 2147483649)]
noncomputable def rs_l_heard_d2 : e2_Rs := [((11, 0, 4294967295), h_ld2)]
noncomputable def S_l_heard_d2 : List e2_Sm := [s_d231]
noncomputable def I_l_heard_d2 : List e2_In := []
set_option maxRecDepth 1000000 in
theorem ck_l_heard_d2 : e2_cal S_l_heard_d2 I_l_heard_d2 4000 0 278 as_l_heard_d2 E_ld h_ld2 (e2_fin rs_l_heard_d2) = true := by decide +kernel
theorem lp_heard_d2 (hen : en_ok) (l : Launch) : ∀ d, 260 ≤ d → ∀ M, e2_MT[278]? = some M → e2_Met l M d as_l_heard_d2 E_ld h_ld2 (e2_fin rs_l_heard_d2) := fun d hd M hM => e2_cal_ok (S := S_l_heard_d2) (I := I_l_heard_d2) (H := 250) (fuel := 4000) hen (e2_fa ((cs_d231 hen l).mono (by decide)) e2_fz) e2_fz 0 d (by omega) 278 M hM _ _ _ _ ck_l_heard_d2
def as_l_untell_d2 : List ev_V := [(2, 83, 0), (11, 0, 4294967295)]
noncomputable def rs_l_untell_d2 : e2_Rs := [((11, 0, 4294967295), h_ld2)]
noncomputable def S_l_untell_d2 : List e2_Sm := []
noncomputable def I_l_untell_d2 : List e2_In := [(212, 3, e2x_212), (279, 2, e2x_279)]
set_option maxRecDepth 1000000 in
theorem ck_l_untell_d2 : e2_cal S_l_untell_d2 I_l_untell_d2 4000 2 279 as_l_untell_d2 E_ld h_ld2 (e2_fin rs_l_untell_d2) = true := by decide +kernel
theorem lp_untell_d2 (hen : en_ok) (l : Launch) : ∀ d, 260 ≤ d → ∀ M, e2_MT[279]? = some M → e2_Met l M d as_l_untell_d2 E_ld h_ld2 (e2_fin rs_l_untell_d2) := fun d hd M hM => e2_cal_ok (S := S_l_untell_d2) (I := I_l_untell_d2) (H := 250) (fuel := 4000) hen e2_fz (e2_fa ein_212 (e2_fa ein_279 e2_fz)) 2 d (by omega) 279 M hM _ _ _ _ ck_l_untell_d2
def as_l_fit_d2 : List ev_V := [(2, 83, 0), (11, 0, 4294967295)]
noncomputable def rs_l_fit_d2 : e2_Rs := [((11, 0, 4294967295), h_ld2)]
noncomputable def S_l_fit_d2 : List e2_Sm := [s_d234]
noncomputable def I_l_fit_d2 : List e2_In := []
set_option maxRecDepth 1000000 in
theorem ck_l_fit_d2 : e2_cal S_l_fit_d2 I_l_fit_d2 4000 0 283 as_l_fit_d2 E_ld h_ld2 (e2_fin rs_l_fit_d2) = true := by decide +kernel
theorem lp_fit_d2 (hen : en_ok) (l : Launch) : ∀ d, 260 ≤ d → ∀ M, e2_MT[283]? = some M → e2_Met l M d as_l_fit_d2 E_ld h_ld2 (e2_fin rs_l_fit_d2) := fun d hd M hM => e2_cal_ok (S := S_l_fit_d2) (I := I_l_fit_d2) (H := 250) (fuel := 4000) hen (e2_fa ((cs_d234 hen l).mono (by decide)) e2_fz) e2_fz 0 d (by omega) 283 M hM _ _ _ _ ck_l_fit_d2
def as_l_sure_d2 : List ev_V := [(2, 83, 0), (11, 0, 4294967295), (11, 0, 4294967295), (11, 0, 4294967295)]
noncomputable def rs_l_sure_d2 : e2_Rs := [((11, 0, 4294967295), h_ld2)]
noncomputable def S_l_sure_d2 : List e2_Sm := [s_d235]
noncomputable def I_l_sure_d2 : List e2_In := []
set_option maxRecDepth 1000000 in
theorem ck_l_sure_d2 : e2_cal S_l_sure_d2 I_l_sure_d2 4000 0 284 as_l_sure_d2 E_ld h_ld2 (e2_fin rs_l_sure_d2) = true := by decide +kernel
theorem lp_sure_d2 (hen : en_ok) (l : Launch) : ∀ d, 260 ≤ d → ∀ M, e2_MT[284]? = some M → e2_Met l M d as_l_sure_d2 E_ld h_ld2 (e2_fin rs_l_sure_d2) := fun d hd M hM => e2_cal_ok (S := S_l_sure_d2) (I := I_l_sure_d2) (H := 250) (fuel := 4000) hen (e2_fa ((cs_d235 hen l).mono (by decide)) e2_fz) e2_fz 0 d (by omega) 284 M hM _ _ _ _ ck_l_sure_d2
def as_l_ask_d2 : List ev_V := [(2, 83, 0), (11, 0, 4294967295), (11, 0, 4294967295)]
noncomputable def rs_l_ask_d2 : e2_Rs := [((11, 0, 4294967295), h_ld2)]
noncomputable def S_l_ask_d2 : List e2_Sm := [s_d236]
noncomputable def I_l_ask_d2 : List e2_In := []
set_option maxRecDepth 1000000 in
theorem ck_l_ask_d2 : e2_cal S_l_ask_d2 I_l_ask_d2 4000 0 285 as_l_ask_d2 E_ld h_ld2 (e2_fin rs_l_ask_d2) = true := by decide +kernel
theorem lp_ask_d2 (hen : en_ok) (l : Launch) : ∀ d, 260 ≤ d → ∀ M, e2_MT[285]? = some M → e2_Met l M d as_l_ask_d2 E_ld h_ld2 (e2_fin rs_l_ask_d2) := fun d hd M hM => e2_cal_ok (S := S_l_ask_d2) (I := I_l_ask_d2) (H := 250) (fuel := 4000) hen (e2_fa ((cs_d236 hen l).mono (by decide)) e2_fz) e2_fz 0 d (by omega) 285 M hM _ _ _ _ ck_l_ask_d2
def as_l_image_d2 : List ev_V := [(2, 83, 0), (11, 0, 4294967295)]
noncomputable def rs_l_image_d2 : e2_Rs := [((11, 0, 4294967295), h_ld2)]
noncomputable def S_l_image_d2 : List e2_Sm := [s_d237]
noncomputable def I_l_image_d2 : List e2_In := []
set_option maxRecDepth 1000000 in
theorem ck_l_image_d2 : e2_cal S_l_image_d2 I_l_image_d2 4000 0 286 as_l_image_d2 E_ld h_ld2 (e2_fin rs_l_image_d2) = true := by decide +kernel
theorem lp_image_d2 (hen : en_ok) (l : Launch) : ∀ d, 260 ≤ d → ∀ M, e2_MT[286]? = some M → e2_Met l M d as_l_image_d2 E_ld h_ld2 (e2_fin rs_l_image_d2) := fun d hd M hM => e2_cal_ok (S := S_l_image_d2) (I := I_l_image_d2) (H := 250) (fuel := 4000) hen (e2_fa ((cs_d237 hen l).mono (by decide)) e2_fz) e2_fz 0 d (by omega) 286 M hM _ _ _ _ ck_l_image_d2
def as_l_back_d2 : List ev_V := [(2, 83, 0), (11, 0, 4294967295)]
noncomputable def rs_l_back_d2 : e2_Rs := [((11, 0, 4294967295), h_ld2), ((11, 0, 4294967295), h_ld2k)]
noncomputable def S_l_back_d2 : List e2_Sm := [s_d238]
noncomputable def I_l_back_d2 : List e2_In := []
set_option maxRecDepth 1000000 in
theorem ck_l_back_d2 : e2_cal S_l_back_d2 I_l_back_d2 4000 0 287 as_l_back_d2 E_ld h_ld2 (e2_fin rs_l_back_d2) = true := by decide +kernel
theorem lp_back_d2 (hen : en_ok) (l : Launch) : ∀ d, 260 ≤ d → ∀ M, e2_MT[287]? = some M → e2_Met l M d as_l_back_d2 E_ld h_ld2 (e2_fin rs_l_back_d2) := fun d hd M hM => e2_cal_ok (S := S_l_back_d2) (I := I_l_back_d2) (H := 250) (fuel := 4000) hen (e2_fa ((cs_d238 hen l).mono (by decide)) e2_fz) e2_fz 0 d (by omega) 287 M hM _ _ _ _ ck_l_back_d2
def as_l_about_d2 : List ev_V := [(2, 83, 0), (11, 0, 4294967295)]
noncomputable def rs_l_about_d2 : e2_Rs := [((11, 0, 4294967295), h_ld2)]
noncomputable def S_l_about_d2 : List e2_Sm := [s_d239]
noncomputable def I_l_about_d2 : List e2_In := []
set_option maxRecDepth 1000000 in
theorem ck_l_about_d2 : e2_cal S_l_about_d2 I_l_about_d2 4000 0 288 as_l_about_d2 E_ld h_ld2 (e2_fin rs_l_about_d2) = true := by decide +kernel
theorem lp_about_d2 (hen : en_ok) (l : Launch) : ∀ d, 260 ≤ d → ∀ M, e2_MT[288]? = some M → e2_Met l M d as_l_about_d2 E_ld h_ld2 (e2_fin rs_l_about_d2) := fun d hd M hM => e2_cal_ok (S := S_l_about_d2) (I := I_l_about_d2) (H := 250) (fuel := 4000) hen (e2_fa ((cs_d239 hen l).mono (by decide)) e2_fz) e2_fz 0 d (by omega) 288 M hM _ _ _ _ ck_l_about_d2
def ldc130 : ev_C := (52, [(11, 2147483648, 2147483649), (11, 2147483648, 2147483649), (0, 1, 0), (0, 1, 0)])
def ldn328 : e2_Q1 := (ldc130, ldc3)
def ldn329 : e2_Q2 := (ldn18, ldn328)
def ldn330 : e2_Q3 := (ldn17, ldn329)
def ldn331 : e2_Q4 := (ldn330, ldn27)
def ldn332 : e2_Q5 := (ldn14, ldn331)
def ldn333 : e2_Q6 := (ldn332, ldn59)
def ldn334 : e2_Q7 := (ldn333, ldn122)
def ldc131 : ev_C := (73, [])
def ldn335 : e2_Q1 := (ldc131, ldc3)
def ldn336 : e2_Q2 := (ldn201, ldn335)
def ldn337 : e2_Q3 := (ldn200, ldn336)
def ldn338 : e2_Q4 := (ldn337, ldn210)
def ldn339 : e2_Q5 := (ldn197, ldn338)
def ldn340 : e2_Q6 := (ldn339, ldn241)
def ldn341 : e2_Q7 := (ldn184, ldn340)
def ldn342 : e2_Q8 := (ldn334, ldn341)
noncomputable def h_ld3 : ev_H := (ldn342 : e2_Q8)
def ldn343 : e2_Q4 := (ldn330, ldn247)
def ldn344 : e2_Q5 := (ldn14, ldn343)
def ldn345 : e2_Q6 := (ldn344, ldn59)
def ldn346 : e2_Q7 := (ldn345, ldn122)
def ldn347 : e2_Q5 := (ldn261, ldn338)
def ldn348 : e2_Q6 := (ldn347, ldn241)
def ldn349 : e2_Q7 := (ldn257, ldn348)
def ldn350 : e2_Q8 := (ldn346, ldn349)
noncomputable def h_wd3 : ev_H := (ldn350 : e2_Q8)
def ldn351 : e2_Q5 := (ldn269, ldn338)
def ldn352 : e2_Q6 := (ldn351, ldn241)
def ldn353 : e2_Q7 := (ldn184, ldn352)
def ldn354 : e2_Q8 := (ldn334, ldn353)
noncomputable def h_ld3k : ev_H := (ldn354 : e2_Q8)
def as_l_feed_d3 : List ev_V := [(2, 83, 0), (11, 0, 4294967295), (11, 0, 4294967295), (11, 0, 4294967295), (11, 0, 4294967295), (11, 0, 4294967295)]
noncomputable def rs_l_feed_d3 : e2_Rs := [((11, 0, 4294967295), h_ld3)]
noncomputable def S_l_feed_d3 : List e2_Sm := [s_d240]
noncomputable def I_l_feed_d3 : List e2_In := []
set_option maxRecDepth 1000000 in
theorem ck_l_feed_d3 : e2_cal S_l_feed_d3 I_l_feed_d3 4000 0 289 as_l_feed_d3 E_ld h_ld3 (e2_fin rs_l_feed_d3) = true := by decide +kernel
theorem lp_feed_d3 (hen : en_ok) (l : Launch) : ∀ d, 260 ≤ d → ∀ M, e2_MT[289]? = some M → e2_Met l M d as_l_feed_d3 E_ld h_ld3 (e2_fin rs_l_feed_d3) := fun d hd M hM => e2_cal_ok (S := S_l_feed_d3) (I := I_l_feed_d3) (H := 250) (fuel := 4000) hen (e2_fa ((cs_d240 hen l).mono (by decide)) e2_fz) e2_fz 0 d (by omega) 289 M hM _ _ _ _ ck_l_feed_d3
def as_l_end_d3 : List ev_V := [(2, 83, 0), (11, 0, 4294967295)]
noncomputable def rs_l_end_d3 : e2_Rs := [((11, 0, 4294967295), h_ld3)]
noncomputable def S_l_end_d3 : List e2_Sm := []
noncomputable def I_l_end_d3 : List e2_In := [(290, 2, e2x_290)]
set_option maxRecDepth 1000000 in
theorem ck_l_end_d3 : e2_cal S_l_end_d3 I_l_end_d3 4000 1 290 as_l_end_d3 E_ld h_ld3 (e2_fin rs_l_end_d3) = true := by decide +kernel
theorem lp_end_d3 (hen : en_ok) (l : Launch) : ∀ d, 260 ≤ d → ∀ M, e2_MT[290]? = some M → e2_Met l M d as_l_end_d3 E_ld h_ld3 (e2_fin rs_l_end_d3) := fun d hd M hM => e2_cal_ok (S := S_l_end_d3) (I := I_l_end_d3) (H := 250) (fuel := 4000) hen e2_fz (e2_fa ein_290 e2_fz) 1 d (by omega) 290 M hM _ _ _ _ ck_l_end_d3
def as_l_fault_d3 : List ev_V := [(2, 83, 0), (11, 0, 4294967295)]
noncomputable def rs_l_fault_d3 : e2_Rs := [((11, 0, 4294967295), h_ld3)]
noncomputable def S_l_fault_d3 : List e2_Sm := []
noncomputable def I_l_fault_d3 : List e2_In := [(211, 2, e2x_211)]
set_option maxRecDepth 1000000 in
theorem ck_l_fault_d3 : e2_cal S_l_fault_d3 I_l_fault_d3 4000 1 211 as_l_fault_d3 E_ld h_ld3 (e2_fin rs_l_fault_d3) = true := by decide +kernel
theorem lp_fault_d3 (hen : en_ok) (l : Launch) : ∀ d, 260 ≤ d → ∀ M, e2_MT[211]? = some M → e2_Met l M d as_l_fault_d3 E_ld h_ld3 (e2_fin rs_l_fault_d3) := fun d hd M hM => e2_cal_ok (S := S_l_fault_d3) (I := I_l_fault_d3) (H := 250) (fuel := 4000) hen e2_fz (e2_fa ein_211 e2_fz) 1 d (by omega) 211 M hM _ _ _ _ ck_l_fault_d3
def as_l_thing_d3 : List ev_V := [(2, 83, 0), (11, 0, 4294967295)]
noncomputable def rs_l_thing_d3 : e2_Rs := [((11, 0, 4294967295), h_ld3)]
noncomputable def S_l_thing_d3 : List e2_Sm := []
noncomputable def I_l_thing_d3 : List e2_In := [(212, 3, e2x_212), (220, 2, e2x_220), (236, 2, e2x_236)]
set_option maxRecDepth 1000000 in
theorem ck_l_thing_d3 : e2_cal S_l_thing_d3 I_l_thing_d3 4000 3 236 as_l_thing_d3 E_ld h_ld3 (e2_fin rs_l_thing_d3) = true := by decide +kernel
theorem lp_thing_d3 (hen : en_ok) (l : Launch) : ∀ d, 260 ≤ d → ∀ M, e2_MT[236]? = some M → e2_Met l M d as_l_thing_d3 E_ld h_ld3 (e2_fin rs_l_thing_d3) := fun d hd M hM => e2_cal_ok (S := S_l_thing_d3) (I := I_l_thing_d3) (H := 250) (fuel := 4000) hen e2_fz (e2_fa ein_212 (e2_fa ein_220 (e2_fa ein_236 e2_fz))) 3 d (by omega) 236 M hM _ _ _ _ ck_l_thing_d3
def as_l_glyph_d3 : List ev_V := [(2, 83, 0), (11, 0, 4294967295), (11, 0, 4294967295)]
noncomputable def rs_l_glyph_d3 : e2_Rs := [((11, 0, 4294967295), h_ld3)]
noncomputable def S_l_glyph_d3 : List e2_Sm := [s_d141]
noncomputable def I_l_glyph_d3 : List e2_In := []
set_option maxRecDepth 1000000 in
theorem ck_l_glyph_d3 : e2_cal S_l_glyph_d3 I_l_glyph_d3 4000 0 237 as_l_glyph_d3 E_ld h_ld3 (e2_fin rs_l_glyph_d3) = true := by decide +kernel
theorem lp_glyph_d3 (hen : en_ok) (l : Launch) : ∀ d, 260 ≤ d → ∀ M, e2_MT[237]? = some M → e2_Met l M d as_l_glyph_d3 E_ld h_ld3 (e2_fin rs_l_glyph_d3) := fun d hd M hM => e2_cal_ok (S := S_l_glyph_d3) (I := I_l_glyph_d3) (H := 250) (fuel := 4000) hen (e2_fa ((cs_d141 hen l (hands_d hen l)).mono (by decide)) e2_fz) e2_fz 0 d (by omega) 237 M hM _ _ _ _ ck_l_glyph_d3
def as_l_plot_d3 : List ev_V := [(2, 83, 0), (11, 0, 4294967295), (11, 0, 4294967295)]
noncomputable def rs_l_plot_d3 : e2_Rs := [((11, 0, 4294967295), h_ld3)]
noncomputable def S_l_plot_d3 : List e2_Sm := [s_d149]
noncomputable def I_l_plot_d3 : List e2_In := []
set_option maxRecDepth 1000000 in
theorem ck_l_plot_d3 : e2_cal S_l_plot_d3 I_l_plot_d3 4000 0 240 as_l_plot_d3 E_ld h_ld3 (e2_fin rs_l_plot_d3) = true := by decide +kernel
theorem lp_plot_d3 (hen : en_ok) (l : Launch) : ∀ d, 260 ≤ d → ∀ M, e2_MT[240]? = some M → e2_Met l M d as_l_plot_d3 E_ld h_ld3 (e2_fin rs_l_plot_d3) := fun d hd M hM => e2_cal_ok (S := S_l_plot_d3) (I := I_l_plot_d3) (H := 250) (fuel := 4000) hen (e2_fa ((cs_d149 hen l (hands_d hen l)).mono (by decide)) e2_fz) e2_fz 0 d (by omega) 240 M hM _ _ _ _ ck_l_plot_d3
def as_l_mow_d3 : List ev_V := [(2, 83, 0), (11, 0, 4294967295)]
noncomputable def rs_l_mow_d3 : e2_Rs := [((11, 0, 4294967295), h_ld3), ((11, 0, 4294967295), h_ld3k)]
noncomputable def S_l_mow_d3 : List e2_Sm := [s_d150]
noncomputable def I_l_mow_d3 : List e2_In := []
set_option maxRecDepth 1000000 in
theorem ck_l_mow_d3 : e2_cal S_l_mow_d3 I_l_mow_d3 4000 0 243 as_l_mow_d3 E_ld h_ld3 (e2_fin rs_l_mow_d3) = true := by decide +kernel
theorem lp_mow_d3 (hen : en_ok) (l : Launch) : ∀ d, 260 ≤ d → ∀ M, e2_MT[243]? = some M → e2_Met l M d as_l_mow_d3 E_ld h_ld3 (e2_fin rs_l_mow_d3) := fun d hd M hM => e2_cal_ok (S := S_l_mow_d3) (I := I_l_mow_d3) (H := 250) (fuel := 4000) hen (e2_fa ((cs_d150 hen l (hands_d hen l)).mono (by decide)) e2_fz) e2_fz 0 d (by omega) 243 M hM _ _ _ _ ck_l_mow_d3
def as_l_sow_d3 : List ev_V := [(2, 83, 0), (11, 0, 4294967295)]
noncomputable def rs_l_sow_d3 : e2_Rs := [((11, 0, 4294967295), h_ld3), ((11, 0, 4294967295), h_ld3k)]
noncomputable def S_l_sow_d3 : List e2_Sm := [s_d151]
noncomputable def I_l_sow_d3 : List e2_In := []
set_option maxRecDepth 1000000 in
theorem ck_l_sow_d3 : e2_cal S_l_sow_d3 I_l_sow_d3 4000 0 244 as_l_sow_d3 E_ld h_ld3 (e2_fin rs_l_sow_d3) = true := by decide +kernel
theorem lp_sow_d3 (hen : en_ok) (l : Launch) : ∀ d, 260 ≤ d → ∀ M, e2_MT[244]? = some M → e2_Met l M d as_l_sow_d3 E_ld h_ld3 (e2_fin rs_l_sow_d3) := fun d hd M hM => e2_cal_ok (S := S_l_sow_d3) (I := I_l_sow_d3) (H := 250) (fuel := 4000) hen (e2_fa ((cs_d151 hen l (hands_d hen l)).mono (by decide)) e2_fz) e2_fz 0 d (by omega) 244 M hM _ _ _ _ ck_l_sow_d3
def as_l_year_d3 : List ev_V := [(2, 83, 0)]
noncomputable def rs_l_year_d3 : e2_Rs := [((11, 0, 4294967295), h_ld3), ((11, 0, 4294967295), h_ld3k)]
noncomputable def S_l_year_d3 : List e2_Sm := [s_d163]
noncomputable def I_l_year_d3 : List e2_In := []
set_option maxRecDepth 1000000 in
theorem ck_l_year_d3 : e2_cal S_l_year_d3 I_l_year_d3 4000 0 246 as_l_year_d3 E_ld h_ld3 (e2_fin rs_l_year_d3) = true := by decide +kernel
theorem lp_year_d3 (hen : en_ok) (l : Launch) : ∀ d, 260 ≤ d → ∀ M, e2_MT[246]? = some M → e2_Met l M d as_l_year_d3 E_ld h_ld3 (e2_fin rs_l_year_d3) := fun d hd M hM => e2_cal_ok (S := S_l_year_d3) (I := I_l_year_d3) (H := 250) (fuel := 4000) hen (e2_fa ((cs_d163 hen l (hands_d hen l)).mono (by decide)) e2_fz) e2_fz 0 d (by omega) 246 M hM _ _ _ _ ck_l_year_d3
def as_l_readings_d3 : List ev_V := [(2, 83, 0)]
noncomputable def rs_l_readings_d3 : e2_Rs := [((11, 0, 4294967295), h_ld3)]
noncomputable def S_l_readings_d3 : List e2_Sm := [s_d167]
noncomputable def I_l_readings_d3 : List e2_In := []
set_option maxRecDepth 1000000 in
theorem ck_l_readings_d3 : e2_cal S_l_readings_d3 I_l_readings_d3 4000 0 249 as_l_readings_d3 E_ld h_ld3 (e2_fin rs_l_readings_d3) = true := by decide +kernel
theorem lp_readings_d3 (hen : en_ok) (l : Launch) : ∀ d, 260 ≤ d → ∀ M, e2_MT[249]? = some M → e2_Met l M d as_l_readings_d3 E_ld h_ld3 (e2_fin rs_l_readings_d3) := fun d hd M hM => e2_cal_ok (S := S_l_readings_d3) (I := I_l_readings_d3) (H := 250) (fuel := 4000) hen (e2_fa ((cs_d167 hen l (hands_d hen l)).mono (by decide)) e2_fz) e2_fz 0 d (by omega) 249 M hM _ _ _ _ ck_l_readings_d3
def as_l_taken_d3 : List ev_V := [(2, 83, 0)]
noncomputable def rs_l_taken_d3 : e2_Rs := [((11, 0, 4294967295), h_ld3)]
noncomputable def S_l_taken_d3 : List e2_Sm := [s_d171]
noncomputable def I_l_taken_d3 : List e2_In := []
set_option maxRecDepth 1000000 in
theorem ck_l_taken_d3 : e2_cal S_l_taken_d3 I_l_taken_d3 4000 0 251 as_l_taken_d3 E_ld h_ld3 (e2_fin rs_l_taken_d3) = true := by decide +kernel
theorem lp_taken_d3 (hen : en_ok) (l : Launch) : ∀ d, 260 ≤ d → ∀ M, e2_MT[251]? = some M → e2_Met l M d as_l_taken_d3 E_ld h_ld3 (e2_fin rs_l_taken_d3) := fun d hd M hM => e2_cal_ok (S := S_l_taken_d3) (I := I_l_taken_d3) (H := 250) (fuel := 4000) hen (e2_fa ((cs_d171 hen l (hands_d hen l)).mono (by decide)) e2_fz) e2_fz 0 d (by omega) 251 M hM _ _ _ _ ck_l_taken_d3
def as_l_weight_d3 : List ev_V := [(2, 83, 0)]
noncomputable def rs_l_weight_d3 : e2_Rs := [((11, 0, 4294967295), h_ld3)]
noncomputable def S_l_weight_d3 : List e2_Sm := [s_d175]
noncomputable def I_l_weight_d3 : List e2_In := []
set_option maxRecDepth 1000000 in
theorem ck_l_weight_d3 : e2_cal S_l_weight_d3 I_l_weight_d3 4000 0 252 as_l_weight_d3 E_ld h_ld3 (e2_fin rs_l_weight_d3) = true := by decide +kernel
theorem lp_weight_d3 (hen : en_ok) (l : Launch) : ∀ d, 260 ≤ d → ∀ M, e2_MT[252]? = some M → e2_Met l M d as_l_weight_d3 E_ld h_ld3 (e2_fin rs_l_weight_d3) := fun d hd M hM => e2_cal_ok (S := S_l_weight_d3) (I := I_l_weight_d3) (H := 250) (fuel := 4000) hen (e2_fa ((cs_d175 hen l (hands_d hen l)).mono (by decide)) e2_fz) e2_fz 0 d (by omega) 252 M hM _ _ _ _ ck_l_weight_d3
def as_l_does_d3 : List ev_V := [(2, 83, 0), (11, 0, 4294967295)]
noncomputable def rs_l_does_d3 : e2_Rs := [((11, 0, 4294967295), h_ld3)]
noncomputable def S_l_does_d3 : List e2_Sm := [s_d179]
noncomputable def I_l_does_d3 : List e2_In := []
set_option maxRecDepth 1000000 in
theorem ck_l_does_d3 : e2_cal S_l_does_d3 I_l_does_d3 4000 0 253 as_l_does_d3 E_ld h_ld3 (e2_fin rs_l_does_d3) = true := by decide +kernel
theorem lp_does_d3 (hen : en_ok) (l : Launch) : ∀ d, 260 ≤ d → ∀ M, e2_MT[253]? = some M → e2_Met l M d as_l_does_d3 E_ld h_ld3 (e2_fin rs_l_does_d3) := fun d hd M hM => e2_cal_ok (S := S_l_does_d3) (I := I_l_does_d3) (H := 250) (fuel := 4000) hen (e2_fa ((cs_d179 hen l (hands_d hen l)).mono (by decide)) e2_fz) e2_fz 0 d (by omega) 253 M hM _ _ _ _ ck_l_does_d3
def as_l_will_d3 : List ev_V := [(2, 83, 0), (11, 0, 4294967295), (11, 0, 4294967295)]
noncomputable def rs_l_will_d3 : e2_Rs := [((11, 0, 4294967295), h_ld3)]
noncomputable def S_l_will_d3 : List e2_Sm := [s_d188]
noncomputable def I_l_will_d3 : List e2_In := []
set_option maxRecDepth 1000000 in
theorem ck_l_will_d3 : e2_cal S_l_will_d3 I_l_will_d3 4000 0 256 as_l_will_d3 E_ld h_ld3 (e2_fin rs_l_will_d3) = true := by decide +kernel
theorem lp_will_d3 (hen : en_ok) (l : Launch) : ∀ d, 260 ≤ d → ∀ M, e2_MT[256]? = some M → e2_Met l M d as_l_will_d3 E_ld h_ld3 (e2_fin rs_l_will_d3) := fun d hd M hM => e2_cal_ok (S := S_l_will_d3) (I := I_l_will_d3) (H := 250) (fuel := 4000) hen (e2_fa ((cs_d188 hen l (hands_d hen l)).mono (by decide)) e2_fz) e2_fz 0 d (by omega) 256 M hM _ _ _ _ ck_l_will_d3
def as_l_field_d3 : List ev_V := [(2, 83, 0), (11, 0, 4294967295)]
noncomputable def rs_l_field_d3 : e2_Rs := [((11, 0, 4294967295), h_ld3)]
noncomputable def S_l_field_d3 : List e2_Sm := [s_d192]
noncomputable def I_l_field_d3 : List e2_In := []
set_option maxRecDepth 1000000 in
theorem ck_l_field_d3 : e2_cal S_l_field_d3 I_l_field_d3 4000 0 257 as_l_field_d3 E_ld h_ld3 (e2_fin rs_l_field_d3) = true := by decide +kernel
theorem lp_field_d3 (hen : en_ok) (l : Launch) : ∀ d, 260 ≤ d → ∀ M, e2_MT[257]? = some M → e2_Met l M d as_l_field_d3 E_ld h_ld3 (e2_fin rs_l_field_d3) := fun d hd M hM => e2_cal_ok (S := S_l_field_d3) (I := I_l_field_d3) (H := 250) (fuel := 4000) hen (e2_fa ((cs_d192 hen l (hands_d hen l)).mono (by decide)) e2_fz) e2_fz 0 d (by omega) 257 M hM _ _ _ _ ck_l_field_d3
def as_l_harm_d3 : List ev_V := [(2, 83, 0)]
noncomputable def rs_l_harm_d3 : e2_Rs := [((11, 0, 4294967295), h_ld3)]
noncomputable def S_l_harm_d3 : List e2_Sm := [s_d196]
noncomputable def I_l_harm_d3 : List e2_In := []
set_option maxRecDepth 1000000 in
theorem ck_l_harm_d3 : e2_cal S_l_harm_d3 I_l_harm_d3 4000 0 258 as_l_harm_d3 E_ld h_ld3 (e2_fin rs_l_harm_d3) = true := by decide +kernel
theorem lp_harm_d3 (hen : en_ok) (l : Launch) : ∀ d, 260 ≤ d → ∀ M, e2_MT[258]? = some M → e2_Met l M d as_l_harm_d3 E_ld h_ld3 (e2_fin rs_l_harm_d3) := fun d hd M hM => e2_cal_ok (S := S_l_harm_d3) (I := I_l_harm_d3) (H := 250) (fuel := 4000) hen (e2_fa ((cs_d196 hen l (hands_d hen l)).mono (by decide)) e2_fz) e2_fz 0 d (by omega) 258 M hM _ _ _ _ ck_l_harm_d3
def as_l_turn_d3 : List ev_V := [(2, 83, 0), (11, 0, 4294967295), (11, 0, 4294967295)]
noncomputable def rs_l_turn_d3 : e2_Rs := [((11, 0, 4294967295), h_ld3)]
noncomputable def S_l_turn_d3 : List e2_Sm := [s_d202]
noncomputable def I_l_turn_d3 : List e2_In := []
set_option maxRecDepth 1000000 in
theorem ck_l_turn_d3 : e2_cal S_l_turn_d3 I_l_turn_d3 4000 0 261 as_l_turn_d3 E_ld h_ld3 (e2_fin rs_l_turn_d3) = true := by decide +kernel
theorem lp_turn_d3 (hen : en_ok) (l : Launch) : ∀ d, 260 ≤ d → ∀ M, e2_MT[261]? = some M → e2_Met l M d as_l_turn_d3 E_ld h_ld3 (e2_fin rs_l_turn_d3) := fun d hd M hM => e2_cal_ok (S := S_l_turn_d3) (I := I_l_turn_d3) (H := 250) (fuel := 4000) hen (e2_fa ((cs_d202 hen l (hands_d hen l)).mono (by decide)) e2_fz) e2_fz 0 d (by omega) 261 M hM _ _ _ _ ck_l_turn_d3
def as_l_plain_d3 : List ev_V := [(2, 83, 0)]
noncomputable def rs_l_plain_d3 : e2_Rs := [((11, 0, 4294967295), h_ld3)]
noncomputable def S_l_plain_d3 : List e2_Sm := [s_d206]
noncomputable def I_l_plain_d3 : List e2_In := []
set_option maxRecDepth 1000000 in
theorem ck_l_plain_d3 : e2_cal S_l_plain_d3 I_l_plain_d3 4000 0 262 as_l_plain_d3 E_ld h_ld3 (e2_fin rs_l_plain_d3) = true := by decide +kernel
theorem lp_plain_d3 (hen : en_ok) (l : Launch) : ∀ d, 260 ≤ d → ∀ M, e2_MT[262]? = some M → e2_Met l M d as_l_plain_d3 E_ld h_ld3 (e2_fin rs_l_plain_d3) := fun d hd M hM => e2_cal_ok (S := S_l_plain_d3) (I := I_l_plain_d3) (H := 250) (fuel := 4000) hen (e2_fa ((cs_d206 hen l (hands_d hen l)).mono (by decide)) e2_fz) e2_fz 0 d (by omega) 262 M hM _ _ _ _ ck_l_plain_d3
def as_l_write_d3 : List ev_V := [(2, 83, 0), (11, 0, 4294967295), (11, 0, 4294967295), (11, 0, 4294967295)]
noncomputable def rs_l_write_d3 : e2_Rs := [((11, 0, 4294967295), h_ld3)]
noncomputable def S_l_write_d3 : List e2_Sm := [s_d216]
noncomputable def I_l_write_d3 : List e2_In := []
set_option maxRecDepth 1000000 in
theorem ck_l_write_d3 : e2_cal S_l_write_d3 I_l_write_d3 4000 0 269 as_l_write_d3 E_ld h_ld3 (e2_fin rs_l_write_d3) = true := by decide +kernel
theorem lp_write_d3 (hen : en_ok) (l : Launch) : ∀ d, 260 ≤ d → ∀ M, e2_MT[269]? = some M → e2_Met l M d as_l_write_d3 E_ld h_ld3 (e2_fin rs_l_write_d3) := fun d hd M hM => e2_cal_ok (S := S_l_write_d3) (I := I_l_write_d3) (H := 250) (fuel := 4000) hen (e2_fa ((cs_d216 hen l (hands_d hen l)).mono (by decide)) e2_fz) e2_fz 0 d (by omega) 269 M hM _ _ _ _ ck_l_write_d3
def as_l_watch_d3 : List ev_V := [(2, 83, 0)]
noncomputable def rs_l_watch_d3 : e2_Rs := [((11, 0, 4294967295), h_ld3)]
noncomputable def S_l_watch_d3 : List e2_Sm := [s_d220]
noncomputable def I_l_watch_d3 : List e2_In := []
set_option maxRecDepth 1000000 in
theorem ck_l_watch_d3 : e2_cal S_l_watch_d3 I_l_watch_d3 4000 0 270 as_l_watch_d3 E_ld h_ld3 (e2_fin rs_l_watch_d3) = true := by decide +kernel
theorem lp_watch_d3 (hen : en_ok) (l : Launch) : ∀ d, 260 ≤ d → ∀ M, e2_MT[270]? = some M → e2_Met l M d as_l_watch_d3 E_ld h_ld3 (e2_fin rs_l_watch_d3) := fun d hd M hM => e2_cal_ok (S := S_l_watch_d3) (I := I_l_watch_d3) (H := 250) (fuel := 4000) hen (e2_fa ((cs_d220 hen l (hands_d hen l)).mono (by decide)) e2_fz) e2_fz 0 d (by omega) 270 M hM _ _ _ _ ck_l_watch_d3
def as_l_cows_d3 : List ev_V := [(2, 83, 0), (11, 0, 4294967295), (11, 0, 4294967295)]
noncomputable def rs_l_cows_d3 : e2_Rs := [((11, 0, 4294967295), h_ld3)]
noncomputable def S_l_cows_d3 : List e2_Sm := [s_d224]
noncomputable def I_l_cows_d3 : List e2_In := []
set_option maxRecDepth 1000000 in
theorem ck_l_cows_d3 : e2_cal S_l_cows_d3 I_l_cows_d3 4000 0 271 as_l_cows_d3 E_ld h_ld3 (e2_fin rs_l_cows_d3) = true := by decide +kernel
theorem lp_cows_d3 (hen : en_ok) (l : Launch) : ∀ d, 260 ≤ d → ∀ M, e2_MT[271]? = some M → e2_Met l M d as_l_cows_d3 E_ld h_ld3 (e2_fin rs_l_cows_d3) := fun d hd M hM => e2_cal_ok (S := S_l_cows_d3) (I := I_l_cows_d3) (H := 250) (fuel := 4000) hen (e2_fa ((cs_d224 hen l (hands_d hen l)).mono (by decide)) e2_fz) e2_fz 0 d (by omega) 271 M hM _ _ _ _ ck_l_cows_d3
def as_l_duel_d3 : List ev_V := [(2, 83, 0), (11, 0, 4294967295), (11, 0, 4294967295), (11, 0, 4294967295), (11, 0, 4294967295)]
noncomputable def rs_l_duel_d3 : e2_Rs := [((11, 0, 4294967295), h_ld3)]
noncomputable def S_l_duel_d3 : List e2_Sm := [s_d230]
noncomputable def I_l_duel_d3 : List e2_In := []
set_option maxRecDepth 1000000 in
theorem ck_l_duel_d3 : e2_cal S_l_duel_d3 I_l_duel_d3 4000 0 274 as_l_duel_d3 E_ld h_ld3 (e2_fin rs_l_duel_d3) = true := by decide +kernel
theorem lp_duel_d3 (hen : en_ok) (l : Launch) : ∀ d, 260 ≤ d → ∀ M, e2_MT[274]? = some M → e2_Met l M d as_l_duel_d3 E_ld h_ld3 (e2_fin rs_l_duel_d3) := fun d hd M hM => e2_cal_ok (S := S_l_duel_d3) (I := I_l_duel_d3) (H := 250) (fuel := 4000) hen (e2_fa ((cs_d230 hen l (hands_d hen l)).mono (by decide)) e2_fz) e2_fz 0 d (by omega) 274 M hM _ _ _ _ ck_l_duel_d3
def as_l_lies_d3 : List ev_V := [(2, 83, 0), (11, 0, 4294967295)]
noncomputable def rs_l_lies_d3 : e2_Rs := [((11, 0, 4294967295), h_ld3)]
noncomputable def S_l_lies_d3 : List e2_Sm := []
noncomputable def I_l_lies_d3 : List e2_In := [(212, 3, e2x_212), (250, 2, e2x_250)]
set_option maxRecDepth 1000000 in
theorem ck_l_lies_d3 : e2_cal S_l_lies_d3 I_l_lies_d3 4000 2 250 as_l_lies_d3 E_ld h_ld3 (e2_fin rs_l_lies_d3) = true := by decide +kernel
theorem lp_lies_d3 (hen : en_ok) (l : Launch) : ∀ d, 260 ≤ d → ∀ M, e2_MT[250]? = some M → e2_Met l M d as_l_lies_d3 E_ld h_ld3 (e2_fin rs_l_lies_d3) := fun d hd M hM => e2_cal_ok (S := S_l_lies_d3) (I := I_l_lies_d3) (H := 250) (fuel := 4000) hen e2_fz (e2_fa ein_212 (e2_fa ein_250 e2_fz)) 2 d (by omega) 250 M hM _ _ _ _ ck_l_lies_d3
def as_l_heard_d3 : List ev_V := [(2, 83, 0), (11, 0, 4294967295), (11, 0, 4294967295), (11, 0, 4294967295), (11, 2147483648, 2147483649)]
noncomputable def rs_l_heard_d3 : e2_Rs := [((11, 0, 4294967295), h_ld3)]
noncomputable def S_l_heard_d3 : List e2_Sm := [s_d231]
noncomputable def I_l_heard_d3 : List e2_In := []
set_option maxRecDepth 1000000 in
theorem ck_l_heard_d3 : e2_cal S_l_heard_d3 I_l_heard_d3 4000 0 278 as_l_heard_d3 E_ld h_ld3 (e2_fin rs_l_heard_d3) = true := by decide +kernel
theorem lp_heard_d3 (hen : en_ok) (l : Launch) : ∀ d, 260 ≤ d → ∀ M, e2_MT[278]? = some M → e2_Met l M d as_l_heard_d3 E_ld h_ld3 (e2_fin rs_l_heard_d3) := fun d hd M hM => e2_cal_ok (S := S_l_heard_d3) (I := I_l_heard_d3) (H := 250) (fuel := 4000) hen (e2_fa ((cs_d231 hen l).mono (by decide)) e2_fz) e2_fz 0 d (by omega) 278 M hM _ _ _ _ ck_l_heard_d3
def as_l_untell_d3 : List ev_V := [(2, 83, 0), (11, 0, 4294967295)]
noncomputable def rs_l_untell_d3 : e2_Rs := [((11, 0, 4294967295), h_ld3)]
noncomputable def S_l_untell_d3 : List e2_Sm := []
noncomputable def I_l_untell_d3 : List e2_In := [(212, 3, e2x_212), (279, 2, e2x_279)]
set_option maxRecDepth 1000000 in
theorem ck_l_untell_d3 : e2_cal S_l_untell_d3 I_l_untell_d3 4000 2 279 as_l_untell_d3 E_ld h_ld3 (e2_fin rs_l_untell_d3) = true := by decide +kernel
theorem lp_untell_d3 (hen : en_ok) (l : Launch) : ∀ d, 260 ≤ d → ∀ M, e2_MT[279]? = some M → e2_Met l M d as_l_untell_d3 E_ld h_ld3 (e2_fin rs_l_untell_d3) := fun d hd M hM => e2_cal_ok (S := S_l_untell_d3) (I := I_l_untell_d3) (H := 250) (fuel := 4000) hen e2_fz (e2_fa ein_212 (e2_fa ein_279 e2_fz)) 2 d (by omega) 279 M hM _ _ _ _ ck_l_untell_d3
def as_l_fit_d3 : List ev_V := [(2, 83, 0), (11, 0, 4294967295)]
noncomputable def rs_l_fit_d3 : e2_Rs := [((11, 0, 4294967295), h_ld3)]
noncomputable def S_l_fit_d3 : List e2_Sm := [s_d234]
noncomputable def I_l_fit_d3 : List e2_In := []
set_option maxRecDepth 1000000 in
theorem ck_l_fit_d3 : e2_cal S_l_fit_d3 I_l_fit_d3 4000 0 283 as_l_fit_d3 E_ld h_ld3 (e2_fin rs_l_fit_d3) = true := by decide +kernel
theorem lp_fit_d3 (hen : en_ok) (l : Launch) : ∀ d, 260 ≤ d → ∀ M, e2_MT[283]? = some M → e2_Met l M d as_l_fit_d3 E_ld h_ld3 (e2_fin rs_l_fit_d3) := fun d hd M hM => e2_cal_ok (S := S_l_fit_d3) (I := I_l_fit_d3) (H := 250) (fuel := 4000) hen (e2_fa ((cs_d234 hen l).mono (by decide)) e2_fz) e2_fz 0 d (by omega) 283 M hM _ _ _ _ ck_l_fit_d3
def as_l_sure_d3 : List ev_V := [(2, 83, 0), (11, 0, 4294967295), (11, 0, 4294967295), (11, 0, 4294967295)]
noncomputable def rs_l_sure_d3 : e2_Rs := [((11, 0, 4294967295), h_ld3)]
noncomputable def S_l_sure_d3 : List e2_Sm := [s_d235]
noncomputable def I_l_sure_d3 : List e2_In := []
set_option maxRecDepth 1000000 in
theorem ck_l_sure_d3 : e2_cal S_l_sure_d3 I_l_sure_d3 4000 0 284 as_l_sure_d3 E_ld h_ld3 (e2_fin rs_l_sure_d3) = true := by decide +kernel
theorem lp_sure_d3 (hen : en_ok) (l : Launch) : ∀ d, 260 ≤ d → ∀ M, e2_MT[284]? = some M → e2_Met l M d as_l_sure_d3 E_ld h_ld3 (e2_fin rs_l_sure_d3) := fun d hd M hM => e2_cal_ok (S := S_l_sure_d3) (I := I_l_sure_d3) (H := 250) (fuel := 4000) hen (e2_fa ((cs_d235 hen l).mono (by decide)) e2_fz) e2_fz 0 d (by omega) 284 M hM _ _ _ _ ck_l_sure_d3
def as_l_ask_d3 : List ev_V := [(2, 83, 0), (11, 0, 4294967295), (11, 0, 4294967295)]
noncomputable def rs_l_ask_d3 : e2_Rs := [((11, 0, 4294967295), h_ld3)]
noncomputable def S_l_ask_d3 : List e2_Sm := [s_d236]
noncomputable def I_l_ask_d3 : List e2_In := []
set_option maxRecDepth 1000000 in
theorem ck_l_ask_d3 : e2_cal S_l_ask_d3 I_l_ask_d3 4000 0 285 as_l_ask_d3 E_ld h_ld3 (e2_fin rs_l_ask_d3) = true := by decide +kernel
theorem lp_ask_d3 (hen : en_ok) (l : Launch) : ∀ d, 260 ≤ d → ∀ M, e2_MT[285]? = some M → e2_Met l M d as_l_ask_d3 E_ld h_ld3 (e2_fin rs_l_ask_d3) := fun d hd M hM => e2_cal_ok (S := S_l_ask_d3) (I := I_l_ask_d3) (H := 250) (fuel := 4000) hen (e2_fa ((cs_d236 hen l).mono (by decide)) e2_fz) e2_fz 0 d (by omega) 285 M hM _ _ _ _ ck_l_ask_d3
def as_l_image_d3 : List ev_V := [(2, 83, 0), (11, 0, 4294967295)]
noncomputable def rs_l_image_d3 : e2_Rs := [((11, 0, 4294967295), h_ld3)]
noncomputable def S_l_image_d3 : List e2_Sm := [s_d237]
noncomputable def I_l_image_d3 : List e2_In := []
set_option maxRecDepth 1000000 in
theorem ck_l_image_d3 : e2_cal S_l_image_d3 I_l_image_d3 4000 0 286 as_l_image_d3 E_ld h_ld3 (e2_fin rs_l_image_d3) = true := by decide +kernel
theorem lp_image_d3 (hen : en_ok) (l : Launch) : ∀ d, 260 ≤ d → ∀ M, e2_MT[286]? = some M → e2_Met l M d as_l_image_d3 E_ld h_ld3 (e2_fin rs_l_image_d3) := fun d hd M hM => e2_cal_ok (S := S_l_image_d3) (I := I_l_image_d3) (H := 250) (fuel := 4000) hen (e2_fa ((cs_d237 hen l).mono (by decide)) e2_fz) e2_fz 0 d (by omega) 286 M hM _ _ _ _ ck_l_image_d3
def as_l_back_d3 : List ev_V := [(2, 83, 0), (11, 0, 4294967295)]
noncomputable def rs_l_back_d3 : e2_Rs := [((11, 0, 4294967295), h_ld3), ((11, 0, 4294967295), h_ld3k)]
noncomputable def S_l_back_d3 : List e2_Sm := [s_d238]
noncomputable def I_l_back_d3 : List e2_In := []
set_option maxRecDepth 1000000 in
theorem ck_l_back_d3 : e2_cal S_l_back_d3 I_l_back_d3 4000 0 287 as_l_back_d3 E_ld h_ld3 (e2_fin rs_l_back_d3) = true := by decide +kernel
theorem lp_back_d3 (hen : en_ok) (l : Launch) : ∀ d, 260 ≤ d → ∀ M, e2_MT[287]? = some M → e2_Met l M d as_l_back_d3 E_ld h_ld3 (e2_fin rs_l_back_d3) := fun d hd M hM => e2_cal_ok (S := S_l_back_d3) (I := I_l_back_d3) (H := 250) (fuel := 4000) hen (e2_fa ((cs_d238 hen l).mono (by decide)) e2_fz) e2_fz 0 d (by omega) 287 M hM _ _ _ _ ck_l_back_d3
def as_l_about_d3 : List ev_V := [(2, 83, 0), (11, 0, 4294967295)]
noncomputable def rs_l_about_d3 : e2_Rs := [((11, 0, 4294967295), h_ld3)]
noncomputable def S_l_about_d3 : List e2_Sm := [s_d239]
noncomputable def I_l_about_d3 : List e2_In := []
set_option maxRecDepth 1000000 in
theorem ck_l_about_d3 : e2_cal S_l_about_d3 I_l_about_d3 4000 0 288 as_l_about_d3 E_ld h_ld3 (e2_fin rs_l_about_d3) = true := by decide +kernel
theorem lp_about_d3 (hen : en_ok) (l : Launch) : ∀ d, 260 ≤ d → ∀ M, e2_MT[288]? = some M → e2_Met l M d as_l_about_d3 E_ld h_ld3 (e2_fin rs_l_about_d3) := fun d hd M hM => e2_cal_ok (S := S_l_about_d3) (I := I_l_about_d3) (H := 250) (fuel := 4000) hen (e2_fa ((cs_d239 hen l).mono (by decide)) e2_fz) e2_fz 0 d (by omega) 288 M hM _ _ _ _ ck_l_about_d3
