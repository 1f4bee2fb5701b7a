/-! PUBLIC CALLS b, printed by a program -/
def E_lb : e2_E := [(2147483648, 2147583648, 0, 0), (2147483648, 2147483656, 1, 0), (2147483648, 2147483688, 2, 0), (2147483648, 2147483688, 3, 0)]
def lbc0 : ev_C := (100, [])
def lbc1 : ev_C := (54, [(0, 30, 0), (11, 0, 4294967295)])
def lbn0 : e2_Q1 := (lbc0, lbc1)
def lbc2 : ev_C := (164, [])
def lbc3 : ev_C := (999, [])
def lbn1 : e2_Q1 := (lbc2, lbc3)
def lbn2 : e2_Q2 := (lbn0, lbn1)
def lbc4 : ev_C := (132, [])
def lbn3 : e2_Q1 := (lbc4, lbc3)
def lbc5 : ev_C := (50, [(11, 0, 4294967295), (11, 0, 4294967295), (11, 0, 4294967295), (11, 0, 4294967295), (11, 0, 4294967295), (11, 0, 4294967295), (11, 0, 4294967295), (11, 0, 4294967295), (11, 0, 4294967295), (11, 0, 4294967295), (11, 0, 4294967295), (11, 0, 4294967295), (11, 0, 4294967295), (11, 0, 4294967295), (11, 0, 4294967295), (11, 0, 4294967295)])
def lbn4 : e2_Q1 := (lbc5, lbc3)
def lbn5 : e2_Q2 := (lbn3, lbn4)
def lbn6 : e2_Q3 := (lbn2, lbn5)
def lbc6 : ev_C := (116, [])
def lbn7 : e2_Q1 := (lbc6, lbc3)
def lbc7 : ev_C := (180, [])
def lbn8 : e2_Q1 := (lbc7, lbc3)
def lbn9 : e2_Q2 := (lbn7, lbn8)
def lbc8 : ev_C := (148, [])
def lbn10 : e2_Q1 := (lbc8, lbc3)
def lbc9 : ev_C := (50, [(11, 0, 4294967295), (11, 0, 4294967295), (11, 0, 4294967295), (11, 0, 4294967295), (11, 0, 4294967295), (11, 0, 4294967295), (11, 0, 4294967295), (11, 0, 4294967295), (11, 0, 4294967295), (11, 0, 4294967295), (11, 0, 4294967295), (11, 0, 4294967295), (11, 0, 4294967295), (11, 0, 4294967295), (11, 0, 4294967295), (11, 0, 4294967295), (11, 0, 4294967295), (11, 0, 4294967295), (11, 0, 4294967295), (11, 0, 4294967295), (11, 0, 4294967295), (11, 0, 4294967295), (11, 0, 4294967295), (11, 0, 4294967295), (11, 0, 4294967295), (11, 2147483648, 2147484647)])
def lbn11 : e2_Q1 := (lbc9, lbc3)
def lbn12 : e2_Q2 := (lbn10, lbn11)
def lbn13 : e2_Q3 := (lbn9, lbn12)
def lbn14 : e2_Q4 := (lbn6, lbn13)
def lbc10 : ev_C := (108, [])
def lbn15 : e2_Q1 := (lbc10, lbc3)
def lbc11 : ev_C := (172, [])
def lbn16 : e2_Q1 := (lbc11, lbc3)
def lbn17 : e2_Q2 := (lbn15, lbn16)
def lbc12 : ev_C := (140, [])
def lbn18 : e2_Q1 := (lbc12, lbc3)
def lbc13 : ev_C := (52, [(0, 0, 0), (0, 0, 0), (11, 2147483648, 2147483649), (11, 2147483648, 2147483649)])
def lbn19 : e2_Q1 := (lbc13, lbc3)
def lbn20 : e2_Q2 := (lbn18, lbn19)
def lbn21 : e2_Q3 := (lbn17, lbn20)
def lbc14 : ev_C := (124, [])
def lbn22 : e2_Q1 := (lbc14, lbc3)
def lbc15 : ev_C := (50, [(1, 1, 4294967296), (11, 2147483648, 2147483656)])
def lbn23 : e2_Q1 := (lbc15, lbc3)
def lbn24 : e2_Q2 := (lbn22, lbn23)
def lbc16 : ev_C := (156, [])
def lbn25 : e2_Q1 := (lbc16, lbc3)
def lbn26 : e2_Q2 := (lbn25, lbn11)
def lbn27 : e2_Q3 := (lbn24, lbn26)
def lbn28 : e2_Q4 := (lbn21, lbn27)
def lbn29 : e2_Q5 := (lbn14, lbn28)
def lbc17 : ev_C := (104, [])
def lbc18 : ev_C := (56, [(0, 3, 0), (11, 2147483648, 2147483649)])
def lbn30 : e2_Q1 := (lbc17, lbc18)
def lbc19 : ev_C := (168, [])
def lbn31 : e2_Q1 := (lbc19, lbc3)
def lbn32 : e2_Q2 := (lbn30, lbn31)
def lbc20 : ev_C := (136, [])
def lbn33 : e2_Q1 := (lbc20, lbc3)
def lbn34 : e2_Q2 := (lbn33, lbn4)
def lbn35 : e2_Q3 := (lbn32, lbn34)
def lbc21 : ev_C := (120, [])
def lbn36 : e2_Q1 := (lbc21, lbc3)
def lbc22 : ev_C := (55, [(0, 1620, 0), (11, 2147483520, 2147483775)])
def lbn37 : e2_Q1 := (lbc22, lbc3)
def lbn38 : e2_Q2 := (lbn36, lbn37)
def lbc23 : ev_C := (152, [])
def lbn39 : e2_Q1 := (lbc23, lbc3)
def lbc24 : ev_C := (54, [(0, 20, 0), (11, 2147483648, 2147483655)])
def lbn40 : e2_Q1 := (lbc24, lbc3)
def lbn41 : e2_Q2 := (lbn39, lbn40)
def lbn42 : e2_Q3 := (lbn38, lbn41)
def lbn43 : e2_Q4 := (lbn35, lbn42)
def lbc25 : ev_C := (112, [])
def lbn44 : e2_Q1 := (lbc25, lbc3)
def lbc26 : ev_C := (176, [])
def lbn45 : e2_Q1 := (lbc26, lbc3)
def lbn46 : e2_Q2 := (lbn44, lbn45)
def lbc27 : ev_C := (144, [])
def lbn47 : e2_Q1 := (lbc27, lbc3)
def lbc28 : ev_C := (54, [(0, 1120, 0), (11, 0, 4294967295)])
def lbn48 : e2_Q1 := (lbc28, lbc3)
def lbn49 : e2_Q2 := (lbn47, lbn48)
def lbn50 : e2_Q3 := (lbn46, lbn49)
def lbc29 : ev_C := (128, [])
def lbn51 : e2_Q1 := (lbc29, lbc3)
def lbc30 : ev_C := (50, [(11, 2147483648, 2147483708), (11, 2147483648, 2147483708)])
def lbn52 : e2_Q1 := (lbc30, lbc3)
def lbn53 : e2_Q2 := (lbn51, lbn52)
def lbc31 : ev_C := (160, [])
def lbn54 : e2_Q1 := (lbc31, lbc3)
def lbc32 : ev_C := (50, [(11, 2147483647, 2147483655), (11, 2147483647, 2147483655), (11, 2147483647, 2147483655)])
def lbn55 : e2_Q1 := (lbc32, lbc3)
def lbn56 : e2_Q2 := (lbn54, lbn55)
def lbn57 : e2_Q3 := (lbn53, lbn56)
def lbn58 : e2_Q4 := (lbn50, lbn57)
def lbn59 : e2_Q5 := (lbn43, lbn58)
def lbn60 : e2_Q6 := (lbn29, lbn59)
def lbc33 : ev_C := (102, [])
def lbc34 : ev_C := (54, [(0, 16, 0), (11, 0, 4294967295)])
def lbn61 : e2_Q1 := (lbc33, lbc34)
def lbc35 : ev_C := (166, [])
def lbn62 : e2_Q1 := (lbc35, lbc3)
def lbn63 : e2_Q2 := (lbn61, lbn62)
def lbc36 : ev_C := (134, [])
def lbn64 : e2_Q1 := (lbc36, lbc3)
def lbc37 : ev_C := (50, [(11, 2147483648, 2147483651), (11, 2147483648, 2147483651), (11, 2147483648, 2147483651), (11, 2147483648, 2147483651), (11, 2147483648, 2147483651), (11, 2147483648, 2147483651), (11, 2147483648, 2147483651), (11, 2147483648, 2147483651), (11, 2147483648, 2147483651), (11, 2147483648, 2147483651), (11, 2147483648, 2147483651), (11, 2147483648, 2147483651), (11, 2147483648, 2147483651), (11, 2147483648, 2147483651), (11, 2147483648, 2147483651), (11, 2147483648, 2147483651)])
def lbn65 : e2_Q1 := (lbc37, lbc3)
def lbn66 : e2_Q2 := (lbn64, lbn65)
def lbn67 : e2_Q3 := (lbn63, lbn66)
def lbc38 : ev_C := (118, [])
def lbn68 : e2_Q1 := (lbc38, lbc3)
def lbc39 : ev_C := (182, [])
def lbn69 : e2_Q1 := (lbc39, lbc3)
def lbn70 : e2_Q2 := (lbn68, lbn69)
def lbc40 : ev_C := (150, [])
def lbn71 : e2_Q1 := (lbc40, lbc3)
def lbc41 : ev_C := (54, [(0, 189, 0), (11, 0, 4294967295)])
def lbn72 : e2_Q1 := (lbc41, lbc3)
def lbn73 : e2_Q2 := (lbn71, lbn72)
def lbn74 : e2_Q3 := (lbn70, lbn73)
def lbn75 : e2_Q4 := (lbn67, lbn74)
def lbc42 : ev_C := (110, [])
def lbn76 : e2_Q1 := (lbc42, lbc3)
def lbc43 : ev_C := (174, [])
def lbn77 : e2_Q1 := (lbc43, lbc3)
def lbn78 : e2_Q2 := (lbn76, lbn77)
def lbc44 : ev_C := (142, [])
def lbn79 : e2_Q1 := (lbc44, lbc3)
def lbc45 : ev_C := (53, [(0, 16, 0)])
def lbn80 : e2_Q1 := (lbc45, lbc3)
def lbn81 : e2_Q2 := (lbn79, lbn80)
def lbn82 : e2_Q3 := (lbn78, lbn81)
def lbc46 : ev_C := (126, [])
def lbn83 : e2_Q1 := (lbc46, lbc3)
def lbc47 : ev_C := (50, [(11, 0, 4294967295), (11, 0, 4294967295)])
def lbn84 : e2_Q1 := (lbc47, lbc3)
def lbn85 : e2_Q2 := (lbn83, lbn84)
def lbc48 : ev_C := (158, [])
def lbn86 : e2_Q1 := (lbc48, lbc3)
def lbc49 : ev_C := (54, [(0, 8, 0), (11, 2147483648, 2147483667)])
def lbn87 : e2_Q1 := (lbc49, lbc3)
def lbn88 : e2_Q2 := (lbn86, lbn87)
def lbn89 : e2_Q3 := (lbn85, lbn88)
def lbn90 : e2_Q4 := (lbn82, lbn89)
def lbn91 : e2_Q5 := (lbn75, lbn90)
def lbc50 : ev_C := (106, [])
def lbn92 : e2_Q1 := (lbc50, lbc3)
def lbc51 : ev_C := (170, [])
def lbn93 : e2_Q1 := (lbc51, lbc3)
def lbn94 : e2_Q2 := (lbn92, lbn93)
def lbc52 : ev_C := (138, [])
def lbn95 : e2_Q1 := (lbc52, lbc3)
def lbc53 : ev_C := (65, [])
def lbn96 : e2_Q1 := (lbc53, lbc3)
def lbn97 : e2_Q2 := (lbn95, lbn96)
def lbn98 : e2_Q3 := (lbn94, lbn97)
def lbc54 : ev_C := (122, [])
def lbn99 : e2_Q1 := (lbc54, lbc3)
def lbc55 : ev_C := (50, [(11, 2147483652, 2147483668), (11, 2147483648, 2147483668)])
def lbn100 : e2_Q1 := (lbc55, lbc3)
def lbn101 : e2_Q2 := (lbn99, lbn100)
def lbc56 : ev_C := (154, [])
def lbn102 : e2_Q1 := (lbc56, lbc3)
def lbc57 : ev_C := (66, [])
def lbn103 : e2_Q1 := (lbc57, lbc3)
def lbn104 : e2_Q2 := (lbn102, lbn103)
def lbn105 : e2_Q3 := (lbn101, lbn104)
def lbn106 : e2_Q4 := (lbn98, lbn105)
def lbc58 : ev_C := (114, [])
def lbn107 : e2_Q1 := (lbc58, lbc3)
def lbc59 : ev_C := (178, [])
def lbn108 : e2_Q1 := (lbc59, lbc3)
def lbn109 : e2_Q2 := (lbn107, lbn108)
def lbc60 : ev_C := (146, [])
def lbn110 : e2_Q1 := (lbc60, lbc3)
def lbc61 : ev_C := (54, [(0, 90, 0), (11, 0, 4294967295)])
def lbn111 : e2_Q1 := (lbc61, lbc3)
def lbn112 : e2_Q2 := (lbn110, lbn111)
def lbn113 : e2_Q3 := (lbn109, lbn112)
def lbc62 : ev_C := (130, [])
def lbn114 : e2_Q1 := (lbc62, lbc3)
def lbn115 : e2_Q2 := (lbn114, lbn84)
def lbc63 : ev_C := (162, [])
def lbn116 : e2_Q1 := (lbc63, lbc3)
def lbn117 : e2_Q1 := (lbc1, lbc3)
def lbn118 : e2_Q2 := (lbn116, lbn117)
def lbn119 : e2_Q3 := (lbn115, lbn118)
def lbn120 : e2_Q4 := (lbn113, lbn119)
def lbn121 : e2_Q5 := (lbn106, lbn120)
def lbn122 : e2_Q6 := (lbn91, lbn121)
def lbn123 : e2_Q7 := (lbn60, lbn122)
def lbc64 : ev_C := (101, [])
def lbn124 : e2_Q1 := (lbc64, lbc1)
def lbc65 : ev_C := (165, [])
def lbn125 : e2_Q1 := (lbc65, lbc3)
def lbn126 : e2_Q2 := (lbn124, lbn125)
def lbc66 : ev_C := (133, [])
def lbn127 : e2_Q1 := (lbc66, lbc3)
def lbc67 : ev_C := (50, [(15, 1, 2147483654), (15, 9, 2147483654), (15, 17, 2147483654), (15, 25, 2147483654), (15, 33, 2147483654), (15, 41, 2147483654), (15, 49, 2147483654), (15, 57, 2147483654), (11, 2147483648, 2147483654), (11, 2147483648, 2147483654), (11, 2147483648, 2147483654), (11, 2147483648, 2147483654), (11, 2147483648, 2147483654), (11, 2147483648, 2147483654), (11, 2147483648, 2147483654), (11, 2147483648, 2147483654)])
def lbn128 : e2_Q1 := (lbc67, lbc3)
def lbn129 : e2_Q2 := (lbn127, lbn128)
def lbn130 : e2_Q3 := (lbn126, lbn129)
def lbc68 : ev_C := (117, [])
def lbn131 : e2_Q1 := (lbc68, lbc3)
def lbc69 : ev_C := (181, [])
def lbn132 : e2_Q1 := (lbc69, lbc3)
def lbn133 : e2_Q2 := (lbn131, lbn132)
def lbc70 : ev_C := (149, [])
def lbn134 : e2_Q1 := (lbc70, lbc3)
def lbc71 : ev_C := (54, [(0, 160, 0), (11, 0, 4294967295)])
def lbn135 : e2_Q1 := (lbc71, lbc3)
def lbn136 : e2_Q2 := (lbn134, lbn135)
def lbn137 : e2_Q3 := (lbn133, lbn136)
def lbn138 : e2_Q4 := (lbn130, lbn137)
def lbc72 : ev_C := (109, [])
def lbn139 : e2_Q1 := (lbc72, lbc3)
def lbc73 : ev_C := (173, [])
def lbn140 : e2_Q1 := (lbc73, lbc3)
def lbn141 : e2_Q2 := (lbn139, lbn140)
def lbc74 : ev_C := (141, [])
def lbn142 : e2_Q1 := (lbc74, lbc3)
def lbc75 : ev_C := (53, [(0, 8, 0)])
def lbn143 : e2_Q1 := (lbc75, lbc3)
def lbn144 : e2_Q2 := (lbn142, lbn143)
def lbn145 : e2_Q3 := (lbn141, lbn144)
def lbc76 : ev_C := (125, [])
def lbn146 : e2_Q1 := (lbc76, lbc3)
def lbn147 : e2_Q2 := (lbn146, lbn84)
def lbc77 : ev_C := (157, [])
def lbn148 : e2_Q1 := (lbc77, lbc3)
def lbc78 : ev_C := (54, [(0, 20, 0), (11, 0, 4294967295)])
def lbn149 : e2_Q1 := (lbc78, lbc3)
def lbn150 : e2_Q2 := (lbn148, lbn149)
def lbn151 : e2_Q3 := (lbn147, lbn150)
def lbn152 : e2_Q4 := (lbn145, lbn151)
def lbn153 : e2_Q5 := (lbn138, lbn152)
def lbc79 : ev_C := (105, [])
def lbn154 : e2_Q1 := (lbc79, lbc3)
def lbc80 : ev_C := (169, [])
def lbn155 : e2_Q1 := (lbc80, lbc3)
def lbn156 : e2_Q2 := (lbn154, lbn155)
def lbc81 : ev_C := (137, [])
def lbn157 : e2_Q1 := (lbc81, lbc3)
def lbc82 : ev_C := (64, [])
def lbn158 : e2_Q1 := (lbc82, lbc3)
def lbn159 : e2_Q2 := (lbn157, lbn158)
def lbn160 : e2_Q3 := (lbn156, lbn159)
def lbc83 : ev_C := (121, [])
def lbn161 : e2_Q1 := (lbc83, lbc3)
def lbc84 : ev_C := (55, [(0, 1600, 0), (11, 2147483520, 2147483775)])
def lbn162 : e2_Q1 := (lbc84, lbc3)
def lbn163 : e2_Q2 := (lbn161, lbn162)
def lbc85 : ev_C := (153, [])
def lbn164 : e2_Q1 := (lbc85, lbc3)
def lbc86 : ev_C := (54, [(0, 20, 0), (11, 2147483648, 2147483667)])
def lbn165 : e2_Q1 := (lbc86, lbc3)
def lbn166 : e2_Q2 := (lbn164, lbn165)
def lbn167 : e2_Q3 := (lbn163, lbn166)
def lbn168 : e2_Q4 := (lbn160, lbn167)
def lbc87 : ev_C := (113, [])
def lbn169 : e2_Q1 := (lbc87, lbc3)
def lbc88 : ev_C := (177, [])
def lbn170 : e2_Q1 := (lbc88, lbc3)
def lbn171 : e2_Q2 := (lbn169, lbn170)
def lbc89 : ev_C := (145, [])
def lbn172 : e2_Q1 := (lbc89, lbc3)
def lbn173 : e2_Q2 := (lbn172, lbn111)
def lbn174 : e2_Q3 := (lbn171, lbn173)
def lbc90 : ev_C := (129, [])
def lbn175 : e2_Q1 := (lbc90, lbc3)
def lbc91 : ev_C := (50, [(11, 2147483648, 2147484647), (11, 2147483648, 2147484647)])
def lbn176 : e2_Q1 := (lbc91, lbc3)
def lbn177 : e2_Q2 := (lbn175, lbn176)
def lbc92 : ev_C := (161, [])
def lbn178 : e2_Q1 := (lbc92, lbc3)
def lbc93 : ev_C := (54, [(0, 3, 0), (11, 0, 4294967295)])
def lbn179 : e2_Q1 := (lbc93, lbc3)
def lbn180 : e2_Q2 := (lbn178, lbn179)
def lbn181 : e2_Q3 := (lbn177, lbn180)
def lbn182 : e2_Q4 := (lbn174, lbn181)
def lbn183 : e2_Q5 := (lbn168, lbn182)
def lbn184 : e2_Q6 := (lbn153, lbn183)
def lbc94 : ev_C := (103, [])
def lbc95 : ev_C := (50, [(11, 0, 4294967295), (11, 0, 4294967295), (11, 0, 4294967295), (11, 0, 4294967295), (11, 0, 4294967295), (11, 0, 4294967295), (11, 0, 4294967295), (11, 0, 4294967295), (11, 0, 4294967295), (11, 0, 4294967295), (11, 0, 4294967295), (11, 0, 4294967295), (11, 0, 4294967295), (11, 0, 4294967295), (11, 0, 4294967295), (11, 0, 4294967295), (11, 0, 4294967295), (11, 0, 4294967295), (11, 0, 4294967295), (11, 0, 4294967295), (11, 0, 4294967295), (11, 0, 4294967295), (11, 0, 4294967295), (11, 0, 4294967295), (11, 0, 4294967295), (11, 2147483648, 2147484647), (11, 0, 4294967295), (11, 0, 4294967295), (11, 0, 4294967295), (11, 0, 4294967295), (11, 0, 4294967295), (11, 0, 4294967295), (11, 0, 4294967295), (11, 0, 4294967295), (11, 0, 4294967295), (11, 0, 4294967295), (11, 0, 4294967295), (11, 0, 4294967295), (11, 0, 4294967295), (11, 0, 4294967295), (11, 0, 4294967295), (11, 0, 4294967295), (11, 0, 4294967295), (11, 0, 4294967295), (11, 0, 4294967295), (11, 0, 4294967295), (11, 0, 4294967295), (11, 0, 4294967295), (11, 0, 4294967295), (11, 0, 4294967295), (11, 0, 4294967295), (11, 2147483648, 2147484647), (11, 0, 4294967295), (11, 0, 4294967295), (11, 0, 4294967295), (11, 0, 4294967295), (11, 0, 4294967295), (11, 0, 4294967295), (11, 0, 4294967295), (11, 0, 4294967295), (11, 0, 4294967295), (11, 0, 4294967295), (11, 0, 4294967295), (11, 0, 4294967295), (11, 0, 4294967295), (11, 0, 4294967295), (11, 0, 4294967295), (11, 0, 4294967295), (11, 0, 4294967295), (11, 0, 4294967295), (11, 0, 4294967295), (11, 0, 4294967295), (11, 0, 4294967295), (11, 0, 4294967295), (11, 0, 4294967295), (11, 0, 4294967295), (11, 0, 4294967295), (11, 2147483648, 2147484647)])
def lbn185 : e2_Q1 := (lbc94, lbc95)
def lbc96 : ev_C := (167, [])
def lbn186 : e2_Q1 := (lbc96, lbc3)
def lbn187 : e2_Q2 := (lbn185, lbn186)
def lbc97 : ev_C := (135, [])
def lbn188 : e2_Q1 := (lbc97, lbc3)
def lbn189 : e2_Q2 := (lbn188, lbn4)
def lbn190 : e2_Q3 := (lbn187, lbn189)
def lbc98 : ev_C := (119, [])
def lbn191 : e2_Q1 := (lbc98, lbc3)
def lbc99 : ev_C := (10, [(0, 0, 0), (2, 88, 0), (2, 115, 0), (2, 114, 0), (2, 86, 0), (2, 112, 0), (1, 2, 4294967296), (2, 118, 0), (2, 120, 0), (2, 131, 0), (2, 91, 0), (11, 2147483648, 2147483668), (2, 123, 0), (11, 2147483648, 2147483649), (11, 2147483648, 2147485248), (2, 87, 0), (2, 84, 0), (2, 122, 0), (2, 100, 0), (2, 132, 0), (11, 2147483648, 2147483668), (11, 2147483648, 2147485248), (1, 0, 4294967296), (11, 0, 4294967295), (11, 2147483648, 2147485248), (2, 93, 0), (2, 104, 0), (11, 2147483648, 2147483678), (2, 89, 0), (2, 92, 0), (2, 119, 0), (2, 90, 0), (2, 94, 0), (2, 103, 0), (1, 3, 4294967296), (11, 0, 4294967295), (11, 0, 4294967295), (11, 2147483648, 2147485249), (11, 2147483648, 2147483653), (11, 2147483648, 2147483668), (2, 85, 0), (11, 2147483648, 2147493647), (5, 0, 0), (2, 95, 0), (2, 96, 0), (2, 97, 0), (2, 98, 0), (2, 99, 0), (2, 101, 0), (2, 102, 0), (2, 105, 0), (2, 106, 0), (2, 107, 0), (2, 108, 0), (2, 109, 0), (2, 110, 0), (2, 111, 0), (11, 2147483648, 2147484768), (11, 2147482048, 2147483655), (11, 2147483648, 2147483738), (11, 2147483648, 2147483678), (11, 0, 4294967295), (11, 0, 4294967295), (11, 0, 4294967295), (11, 0, 4294967295), (11, 0, 4294967295), (2, 113, 0), (2, 116, 0), (2, 117, 0), (2, 121, 0), (11, 0, 4294967295), (11, 0, 4294967295), (2, 124, 0), (2, 125, 0), (11, 0, 4294967295), (2, 126, 0), (2, 127, 0), (2, 128, 0), (2, 129, 0), (2, 130, 0)])
def lbn192 : e2_Q1 := (lbc99, lbc3)
def lbn193 : e2_Q2 := (lbn191, lbn192)
def lbc100 : ev_C := (151, [])
def lbn194 : e2_Q1 := (lbc100, lbc3)
def lbn195 : e2_Q2 := (lbn194, lbn72)
def lbn196 : e2_Q3 := (lbn193, lbn195)
def lbn197 : e2_Q4 := (lbn190, lbn196)
def lbc101 : ev_C := (111, [])
def lbn198 : e2_Q1 := (lbc101, lbc3)
def lbc102 : ev_C := (175, [])
def lbn199 : e2_Q1 := (lbc102, lbc3)
def lbn200 : e2_Q2 := (lbn198, lbn199)
def lbc103 : ev_C := (143, [])
def lbn201 : e2_Q1 := (lbc103, lbc3)
def lbc104 : ev_C := (60, [])
def lbn202 : e2_Q1 := (lbc104, lbc3)
def lbn203 : e2_Q2 := (lbn201, lbn202)
def lbn204 : e2_Q3 := (lbn200, lbn203)
def lbc105 : ev_C := (127, [])
def lbn205 : e2_Q1 := (lbc105, lbc3)
def lbn206 : e2_Q2 := (lbn205, lbn84)
def lbc106 : ev_C := (159, [])
def lbn207 : e2_Q1 := (lbc106, lbc3)
def lbc107 : ev_C := (54, [(0, 256, 0), (11, 0, 4294967295)])
def lbn208 : e2_Q1 := (lbc107, lbc3)
def lbn209 : e2_Q2 := (lbn207, lbn208)
def lbn210 : e2_Q3 := (lbn206, lbn209)
def lbn211 : e2_Q4 := (lbn204, lbn210)
def lbn212 : e2_Q5 := (lbn197, lbn211)
def lbc108 : ev_C := (107, [])
def lbn213 : e2_Q1 := (lbc108, lbc3)
def lbc109 : ev_C := (171, [])
def lbn214 : e2_Q1 := (lbc109, lbc3)
def lbn215 : e2_Q2 := (lbn213, lbn214)
def lbc110 : ev_C := (139, [])
def lbn216 : e2_Q1 := (lbc110, lbc3)
def lbc111 : ev_C := (52, [(11, 2147483648, 2147483649), (11, 2147483648, 2147483649)])
def lbn217 : e2_Q1 := (lbc111, lbc3)
def lbn218 : e2_Q2 := (lbn216, lbn217)
def lbn219 : e2_Q3 := (lbn215, lbn218)
def lbc112 : ev_C := (123, [])
def lbn220 : e2_Q1 := (lbc112, lbc3)
def lbc113 : ev_C := (50, [(11, 2147483648, 2147483652), (11, 2147483648, 2147483652)])
def lbn221 : e2_Q1 := (lbc113, lbc3)
def lbn222 : e2_Q2 := (lbn220, lbn221)
def lbc114 : ev_C := (155, [])
def lbn223 : e2_Q1 := (lbc114, lbc3)
def lbn224 : e2_Q2 := (lbn223, lbn149)
def lbn225 : e2_Q3 := (lbn222, lbn224)
def lbn226 : e2_Q4 := (lbn219, lbn225)
def lbc115 : ev_C := (115, [])
def lbn227 : e2_Q1 := (lbc115, lbc3)
def lbc116 : ev_C := (179, [])
def lbn228 : e2_Q1 := (lbc116, lbc3)
def lbn229 : e2_Q2 := (lbn227, lbn228)
def lbc117 : ev_C := (147, [])
def lbn230 : e2_Q1 := (lbc117, lbc3)
def lbc118 : ev_C := (54, [(0, 60, 0), (11, 0, 4294967295)])
def lbn231 : e2_Q1 := (lbc118, lbc3)
def lbn232 : e2_Q2 := (lbn230, lbn231)
def lbn233 : e2_Q3 := (lbn229, lbn232)
def lbc119 : ev_C := (131, [])
def lbn234 : e2_Q1 := (lbc119, lbc3)
def lbc120 : ev_C := (50, [(11, 0, 4294967295), (11, 0, 4294967295), (11, 0, 4294967295), (11, 0, 4294967295), (11, 0, 4294967295), (11, 0, 4294967295), (11, 0, 4294967295), (11, 0, 4294967295)])
def lbn235 : e2_Q1 := (lbc120, lbc3)
def lbn236 : e2_Q2 := (lbn234, lbn235)
def lbc121 : ev_C := (163, [])
def lbn237 : e2_Q1 := (lbc121, lbc3)
def lbn238 : e2_Q2 := (lbn237, lbn117)
def lbn239 : e2_Q3 := (lbn236, lbn238)
def lbn240 : e2_Q4 := (lbn233, lbn239)
def lbn241 : e2_Q5 := (lbn226, lbn240)
def lbn242 : e2_Q6 := (lbn212, lbn241)
def lbn243 : e2_Q7 := (lbn184, lbn242)
def lbn244 : e2_Q8 := (lbn123, lbn243)
noncomputable def h_lb0 : ev_H := (lbn244 : e2_Q8)
def lbc122 : ev_C := (50, [(11, 2147483648, 2147483656), (11, 2147483648, 2147483656)])
def lbn245 : e2_Q1 := (lbc122, lbc3)
def lbn246 : e2_Q2 := (lbn22, lbn245)
def lbn247 : e2_Q3 := (lbn246, lbn26)
def lbn248 : e2_Q4 := (lbn21, lbn247)
def lbn249 : e2_Q5 := (lbn14, lbn248)
def lbn250 : e2_Q6 := (lbn249, lbn59)
def lbn251 : e2_Q7 := (lbn250, lbn122)
def lbc123 : ev_C := (50, [(11, 2147483648, 2147483654), (11, 2147483648, 2147483654), (11, 2147483648, 2147483654), (11, 2147483648, 2147483654), (11, 2147483648, 2147483654), (11, 2147483648, 2147483654), (11, 2147483648, 2147483654), (11, 2147483648, 2147483654), (11, 2147483648, 2147483654), (11, 2147483648, 2147483654), (11, 2147483648, 2147483654), (11, 2147483648, 2147483654), (11, 2147483648, 2147483654), (11, 2147483648, 2147483654), (11, 2147483648, 2147483654), (11, 2147483648, 2147483654)])
def lbn252 : e2_Q1 := (lbc123, lbc3)
def lbn253 : e2_Q2 := (lbn127, lbn252)
def lbn254 : e2_Q3 := (lbn126, lbn253)
def lbn255 : e2_Q4 := (lbn254, lbn137)
def lbn256 : e2_Q5 := (lbn255, lbn152)
def lbn257 : e2_Q6 := (lbn256, lbn183)
def lbc124 : ev_C := (10, [(0, 0, 0), (2, 88, 0), (2, 115, 0), (2, 114, 0), (2, 86, 0), (2, 112, 0), (11, 2147483648, 2147483688), (2, 118, 0), (2, 120, 0), (2, 131, 0), (2, 91, 0), (11, 2147483648, 2147483668), (2, 123, 0), (11, 2147483648, 2147483649), (11, 2147483648, 2147485248), (2, 87, 0), (2, 84, 0), (2, 122, 0), (2, 100, 0), (2, 132, 0), (11, 2147483648, 2147483668), (11, 2147483648, 2147485248), (1, 0, 4294967296), (11, 0, 4294967295), (11, 2147483648, 2147485248), (2, 93, 0), (2, 104, 0), (11, 2147483648, 2147483678), (2, 89, 0), (2, 92, 0), (2, 119, 0), (2, 90, 0), (2, 94, 0), (2, 103, 0), (11, 2147483648, 2147483688), (11, 0, 4294967295), (11, 0, 4294967295), (11, 2147483648, 2147485249), (11, 2147483648, 2147483653), (11, 2147483648, 2147483668), (2, 85, 0), (11, 2147483648, 2147493647), (5, 0, 0), (2, 95, 0), (2, 96, 0), (2, 97, 0), (2, 98, 0), (2, 99, 0), (2, 101, 0), (2, 102, 0), (2, 105, 0), (2, 106, 0), (2, 107, 0), (2, 108, 0), (2, 109, 0), (2, 110, 0), (2, 111, 0), (11, 2147483648, 2147484768), (11, 2147482048, 2147483655), (11, 2147483648, 2147483738), (11, 2147483648, 2147483678), (11, 0, 4294967295), (11, 0, 4294967295), (11, 0, 4294967295), (11, 0, 4294967295), (11, 0, 4294967295), (2, 113, 0), (2, 116, 0), (2, 117, 0), (2, 121, 0), (11, 0, 4294967295), (11, 0, 4294967295), (2, 124, 0), (2, 125, 0), (11, 0, 4294967295), (2, 126, 0), (2, 127, 0), (2, 128, 0), (2, 129, 0), (2, 130, 0)])
def lbn258 : e2_Q1 := (lbc124, lbc3)
def lbn259 : e2_Q2 := (lbn191, lbn258)
def lbn260 : e2_Q3 := (lbn259, lbn195)
def lbn261 : e2_Q4 := (lbn190, lbn260)
def lbn262 : e2_Q5 := (lbn261, lbn211)
def lbn263 : e2_Q6 := (lbn262, lbn241)
def lbn264 : e2_Q7 := (lbn257, lbn263)
def lbn265 : e2_Q8 := (lbn251, lbn264)
noncomputable def h_wb0 : ev_H := (lbn265 : e2_Q8)
def lbc125 : ev_C := (10, [(0, 0, 0), (2, 88, 0), (2, 115, 0), (2, 114, 0), (2, 86, 0), (2, 112, 0), (11, 2147483648, 2147483688), (2, 118, 0), (2, 120, 0), (2, 131, 0), (2, 91, 0), (11, 2147483648, 2147483668), (2, 123, 0), (11, 2147483648, 2147483649), (11, 2147483648, 2147485248), (2, 87, 0), (2, 84, 0), (2, 122, 0), (2, 100, 0), (2, 132, 0), (11, 2147483648, 2147483668), (11, 2147483648, 2147485248), (1, 0, 4294967296), (11, 0, 4294967295), (11, 2147483648, 2147485248), (2, 93, 0), (2, 104, 0), (11, 2147483648, 2147483678), (2, 89, 0), (2, 92, 0), (2, 119, 0), (2, 90, 0), (2, 94, 0), (2, 103, 0), (0, 0, 0), (11, 0, 4294967295), (11, 0, 4294967295), (11, 2147483648, 2147485249), (11, 2147483648, 2147483653), (11, 2147483648, 2147483668), (2, 85, 0), (11, 2147483648, 2147493647), (5, 0, 0), (2, 95, 0), (2, 96, 0), (2, 97, 0), (2, 98, 0), (2, 99, 0), (2, 101, 0), (2, 102, 0), (2, 105, 0), (2, 106, 0), (2, 107, 0), (2, 108, 0), (2, 109, 0), (2, 110, 0), (2, 111, 0), (11, 2147483648, 2147484768), (11, 2147482048, 2147483655), (11, 2147483648, 2147483738), (11, 2147483648, 2147483678), (11, 0, 4294967295), (11, 0, 4294967295), (11, 0, 4294967295), (11, 0, 4294967295), (11, 0, 4294967295), (2, 113, 0), (2, 116, 0), (2, 117, 0), (2, 121, 0), (11, 0, 4294967295), (11, 0, 4294967295), (2, 124, 0), (2, 125, 0), (11, 0, 4294967295), (2, 126, 0), (2, 127, 0), (2, 128, 0), (2, 129, 0), (2, 130, 0)])
def lbn266 : e2_Q1 := (lbc125, lbc3)
def lbn267 : e2_Q2 := (lbn191, lbn266)
def lbn268 : e2_Q3 := (lbn267, lbn195)
def lbn269 : e2_Q4 := (lbn190, lbn268)
def lbn270 : e2_Q5 := (lbn269, lbn211)
def lbn271 : e2_Q6 := (lbn270, lbn241)
def lbn272 : e2_Q7 := (lbn184, lbn271)
def lbn273 : e2_Q8 := (lbn123, lbn272)
noncomputable def h_lb0k : ev_H := (lbn273 : e2_Q8)
def as_l_feed_b0 : List ev_V := [(2, 83, 0), (11, 0, 4294967295), (11, 0, 4294967295), (11, 0, 4294967295), (11, 0, 4294967295), (11, 0, 4294967295)]
noncomputable def rs_l_feed_b0 : e2_Rs := [((11, 0, 4294967295), h_lb0)]
noncomputable def S_l_feed_b0 : List e2_Sm := [s_b240]
noncomputable def I_l_feed_b0 : List e2_In := []
set_option maxRecDepth 1000000 in
theorem ck_l_feed_b0 : e2_cal S_l_feed_b0 I_l_feed_b0 4000 0 289 as_l_feed_b0 E_lb h_lb0 (e2_fin rs_l_feed_b0) = true := by decide +kernel
theorem lp_feed_b0 (hen : en_ok) (l : Launch) : ∀ d, 260 ≤ d → ∀ M, e2_MT[289]? = some M → e2_Met l M d as_l_feed_b0 E_lb h_lb0 (e2_fin rs_l_feed_b0) := fun d hd M hM => e2_cal_ok (S := S_l_feed_b0) (I := I_l_feed_b0) (H := 250) (fuel := 4000) hen (e2_fa ((cs_b240 hen l).mono (by decide)) e2_fz) e2_fz 0 d (by omega) 289 M hM _ _ _ _ ck_l_feed_b0
def as_l_end_b0 : List ev_V := [(2, 83, 0), (11, 0, 4294967295)]
noncomputable def rs_l_end_b0 : e2_Rs := [((11, 0, 4294967295), h_lb0)]
noncomputable def S_l_end_b0 : List e2_Sm := []
noncomputable def I_l_end_b0 : List e2_In := [(290, 2, e2x_290)]
set_option maxRecDepth 1000000 in
theorem ck_l_end_b0 : e2_cal S_l_end_b0 I_l_end_b0 4000 1 290 as_l_end_b0 E_lb h_lb0 (e2_fin rs_l_end_b0) = true := by decide +kernel
theorem lp_end_b0 (hen : en_ok) (l : Launch) : ∀ d, 260 ≤ d → ∀ M, e2_MT[290]? = some M → e2_Met l M d as_l_end_b0 E_lb h_lb0 (e2_fin rs_l_end_b0) := fun d hd M hM => e2_cal_ok (S := S_l_end_b0) (I := I_l_end_b0) (H := 250) (fuel := 4000) hen e2_fz (e2_fa ein_290 e2_fz) 1 d (by omega) 290 M hM _ _ _ _ ck_l_end_b0
def as_l_fault_b0 : List ev_V := [(2, 83, 0), (11, 0, 4294967295)]
noncomputable def rs_l_fault_b0 : e2_Rs := [((11, 0, 4294967295), h_lb0)]
noncomputable def S_l_fault_b0 : List e2_Sm := []
noncomputable def I_l_fault_b0 : List e2_In := [(211, 2, e2x_211)]
set_option maxRecDepth 1000000 in
theorem ck_l_fault_b0 : e2_cal S_l_fault_b0 I_l_fault_b0 4000 1 211 as_l_fault_b0 E_lb h_lb0 (e2_fin rs_l_fault_b0) = true := by decide +kernel
theorem lp_fault_b0 (hen : en_ok) (l : Launch) : ∀ d, 260 ≤ d → ∀ M, e2_MT[211]? = some M → e2_Met l M d as_l_fault_b0 E_lb h_lb0 (e2_fin rs_l_fault_b0) := fun d hd M hM => e2_cal_ok (S := S_l_fault_b0) (I := I_l_fault_b0) (H := 250) (fuel := 4000) hen e2_fz (e2_fa ein_211 e2_fz) 1 d (by omega) 211 M hM _ _ _ _ ck_l_fault_b0
def as_l_thing_b0 : List ev_V := [(2, 83, 0), (11, 0, 4294967295)]
noncomputable def rs_l_thing_b0 : e2_Rs := [((11, 0, 4294967295), h_lb0)]
noncomputable def S_l_thing_b0 : List e2_Sm := []
noncomputable def I_l_thing_b0 : List e2_In := [(212, 3, e2x_212), (220, 2, e2x_220), (236, 2, e2x_236)]
set_option maxRecDepth 1000000 in
theorem ck_l_thing_b0 : e2_cal S_l_thing_b0 I_l_thing_b0 4000 3 236 as_l_thing_b0 E_lb h_lb0 (e2_fin rs_l_thing_b0) = true := by decide +kernel
theorem lp_thing_b0 (hen : en_ok) (l : Launch) : ∀ d, 260 ≤ d → ∀ M, e2_MT[236]? = some M → e2_Met l M d as_l_thing_b0 E_lb h_lb0 (e2_fin rs_l_thing_b0) := fun d hd M hM => e2_cal_ok (S := S_l_thing_b0) (I := I_l_thing_b0) (H := 250) (fuel := 4000) hen e2_fz (e2_fa ein_212 (e2_fa ein_220 (e2_fa ein_236 e2_fz))) 3 d (by omega) 236 M hM _ _ _ _ ck_l_thing_b0
def as_l_glyph_b0 : List ev_V := [(2, 83, 0), (11, 0, 4294967295), (11, 0, 4294967295)]
noncomputable def rs_l_glyph_b0 : e2_Rs := [((11, 0, 4294967295), h_lb0)]
noncomputable def S_l_glyph_b0 : List e2_Sm := [s_b135]
noncomputable def I_l_glyph_b0 : List e2_In := []
set_option maxRecDepth 1000000 in
theorem ck_l_glyph_b0 : e2_cal S_l_glyph_b0 I_l_glyph_b0 4000 0 237 as_l_glyph_b0 E_lb h_lb0 (e2_fin rs_l_glyph_b0) = true := by decide +kernel
theorem lp_glyph_b0 (hen : en_ok) (l : Launch) : ∀ d, 260 ≤ d → ∀ M, e2_MT[237]? = some M → e2_Met l M d as_l_glyph_b0 E_lb h_lb0 (e2_fin rs_l_glyph_b0) := fun d hd M hM => e2_cal_ok (S := S_l_glyph_b0) (I := I_l_glyph_b0) (H := 250) (fuel := 4000) hen (e2_fa ((cs_b135 hen l).mono (by decide)) e2_fz) e2_fz 0 d (by omega) 237 M hM _ _ _ _ ck_l_glyph_b0
def as_l_plot_b0 : List ev_V := [(2, 83, 0), (11, 0, 4294967295), (11, 0, 4294967295)]
noncomputable def rs_l_plot_b0 : e2_Rs := [((11, 0, 4294967295), h_lb0)]
noncomputable def S_l_plot_b0 : List e2_Sm := [s_b146]
noncomputable def I_l_plot_b0 : List e2_In := []
set_option maxRecDepth 1000000 in
theorem ck_l_plot_b0 : e2_cal S_l_plot_b0 I_l_plot_b0 4000 0 240 as_l_plot_b0 E_lb h_lb0 (e2_fin rs_l_plot_b0) = true := by decide +kernel
theorem lp_plot_b0 (hen : en_ok) (l : Launch) : ∀ d, 260 ≤ d → ∀ M, e2_MT[240]? = some M → e2_Met l M d as_l_plot_b0 E_lb h_lb0 (e2_fin rs_l_plot_b0) := fun d hd M hM => e2_cal_ok (S := S_l_plot_b0) (I := I_l_plot_b0) (H := 250) (fuel := 4000) hen (e2_fa ((cs_b146 hen l).mono (by decide)) e2_fz) e2_fz 0 d (by omega) 240 M hM _ _ _ _ ck_l_plot_b0
def as_l_mow_b0 : List ev_V := [(2, 83, 0), (11, 0, 4294967295)]
noncomputable def rs_l_mow_b0 : e2_Rs := [((11, 0, 4294967295), h_lb0), ((11, 0, 4294967295), h_lb0k)]
noncomputable def S_l_mow_b0 : List e2_Sm := [s_b150]
noncomputable def I_l_mow_b0 : List e2_In := []
set_option maxRecDepth 1000000 in
theorem ck_l_mow_b0 : e2_cal S_l_mow_b0 I_l_mow_b0 4000 0 243 as_l_mow_b0 E_lb h_lb0 (e2_fin rs_l_mow_b0) = true := by decide +kernel
theorem lp_mow_b0 (hen : en_ok) (l : Launch) : ∀ d, 260 ≤ d → ∀ M, e2_MT[243]? = some M → e2_Met l M d as_l_mow_b0 E_lb h_lb0 (e2_fin rs_l_mow_b0) := fun d hd M hM => e2_cal_ok (S := S_l_mow_b0) (I := I_l_mow_b0) (H := 250) (fuel := 4000) hen (e2_fa ((cs_b150 hen l (hands_b hen l)).mono (by decide)) e2_fz) e2_fz 0 d (by omega) 243 M hM _ _ _ _ ck_l_mow_b0
def as_l_sow_b0 : List ev_V := [(2, 83, 0), (11, 0, 4294967295)]
noncomputable def rs_l_sow_b0 : e2_Rs := [((11, 0, 4294967295), h_lb0), ((11, 0, 4294967295), h_lb0k)]
noncomputable def S_l_sow_b0 : List e2_Sm := [s_b151]
noncomputable def I_l_sow_b0 : List e2_In := []
set_option maxRecDepth 1000000 in
theorem ck_l_sow_b0 : e2_cal S_l_sow_b0 I_l_sow_b0 4000 0 244 as_l_sow_b0 E_lb h_lb0 (e2_fin rs_l_sow_b0) = true := by decide +kernel
theorem lp_sow_b0 (hen : en_ok) (l : Launch) : ∀ d, 260 ≤ d → ∀ M, e2_MT[244]? = some M → e2_Met l M d as_l_sow_b0 E_lb h_lb0 (e2_fin rs_l_sow_b0) := fun d hd M hM => e2_cal_ok (S := S_l_sow_b0) (I := I_l_sow_b0) (H := 250) (fuel := 4000) hen (e2_fa ((cs_b151 hen l (hands_b hen l)).mono (by decide)) e2_fz) e2_fz 0 d (by omega) 244 M hM _ _ _ _ ck_l_sow_b0
def as_l_year_b0 : List ev_V := [(2, 83, 0)]
noncomputable def rs_l_year_b0 : e2_Rs := [((11, 0, 4294967295), h_lb0), ((11, 0, 4294967295), h_lb0k)]
noncomputable def S_l_year_b0 : List e2_Sm := [s_b160]
noncomputable def I_l_year_b0 : List e2_In := []
set_option maxRecDepth 1000000 in
theorem ck_l_year_b0 : e2_cal S_l_year_b0 I_l_year_b0 4000 0 246 as_l_year_b0 E_lb h_lb0 (e2_fin rs_l_year_b0) = true := by decide +kernel
theorem lp_year_b0 (hen : en_ok) (l : Launch) : ∀ d, 260 ≤ d → ∀ M, e2_MT[246]? = some M → e2_Met l M d as_l_year_b0 E_lb h_lb0 (e2_fin rs_l_year_b0) := fun d hd M hM => e2_cal_ok (S := S_l_year_b0) (I := I_l_year_b0) (H := 250) (fuel := 4000) hen (e2_fa ((cs_b160 hen l (hands_b hen l)).mono (by decide)) e2_fz) e2_fz 0 d (by omega) 246 M hM _ _ _ _ ck_l_year_b0
def as_l_readings_b0 : List ev_V := [(2, 83, 0)]
noncomputable def rs_l_readings_b0 : e2_Rs := [((11, 0, 4294967295), h_lb0)]
noncomputable def S_l_readings_b0 : List e2_Sm := [s_b164]
noncomputable def I_l_readings_b0 : List e2_In := []
set_option maxRecDepth 1000000 in
theorem ck_l_readings_b0 : e2_cal S_l_readings_b0 I_l_readings_b0 4000 0 249 as_l_readings_b0 E_lb h_lb0 (e2_fin rs_l_readings_b0) = true := by decide +kernel
theorem lp_readings_b0 (hen : en_ok) (l : Launch) : ∀ d, 260 ≤ d → ∀ M, e2_MT[249]? = some M → e2_Met l M d as_l_readings_b0 E_lb h_lb0 (e2_fin rs_l_readings_b0) := fun d hd M hM => e2_cal_ok (S := S_l_readings_b0) (I := I_l_readings_b0) (H := 250) (fuel := 4000) hen (e2_fa ((cs_b164 hen l).mono (by decide)) e2_fz) e2_fz 0 d (by omega) 249 M hM _ _ _ _ ck_l_readings_b0
def as_l_taken_b0 : List ev_V := [(2, 83, 0)]
noncomputable def rs_l_taken_b0 : e2_Rs := [((11, 0, 4294967295), h_lb0)]
noncomputable def S_l_taken_b0 : List e2_Sm := [s_b168]
noncomputable def I_l_taken_b0 : List e2_In := []
set_option maxRecDepth 1000000 in
theorem ck_l_taken_b0 : e2_cal S_l_taken_b0 I_l_taken_b0 4000 0 251 as_l_taken_b0 E_lb h_lb0 (e2_fin rs_l_taken_b0) = true := by decide +kernel
theorem lp_taken_b0 (hen : en_ok) (l : Launch) : ∀ d, 260 ≤ d → ∀ M, e2_MT[251]? = some M → e2_Met l M d as_l_taken_b0 E_lb h_lb0 (e2_fin rs_l_taken_b0) := fun d hd M hM => e2_cal_ok (S := S_l_taken_b0) (I := I_l_taken_b0) (H := 250) (fuel := 4000) hen (e2_fa ((cs_b168 hen l).mono (by decide)) e2_fz) e2_fz 0 d (by omega) 251 M hM _ _ _ _ ck_l_taken_b0
def as_l_weight_b0 : List ev_V := [(2, 83, 0)]
noncomputable def rs_l_weight_b0 : e2_Rs := [((11, 0, 4294967295), h_lb0)]
noncomputable def S_l_weight_b0 : List e2_Sm := [s_b172]
noncomputable def I_l_weight_b0 : List e2_In := []
set_option maxRecDepth 1000000 in
theorem ck_l_weight_b0 : e2_cal S_l_weight_b0 I_l_weight_b0 4000 0 252 as_l_weight_b0 E_lb h_lb0 (e2_fin rs_l_weight_b0) = true := by decide +kernel
theorem lp_weight_b0 (hen : en_ok) (l : Launch) : ∀ d, 260 ≤ d → ∀ M, e2_MT[252]? = some M → e2_Met l M d as_l_weight_b0 E_lb h_lb0 (e2_fin rs_l_weight_b0) := fun d hd M hM => e2_cal_ok (S := S_l_weight_b0) (I := I_l_weight_b0) (H := 250) (fuel := 4000) hen (e2_fa ((cs_b172 hen l).mono (by decide)) e2_fz) e2_fz 0 d (by omega) 252 M hM _ _ _ _ ck_l_weight_b0
def as_l_does_b0 : List ev_V := [(2, 83, 0), (11, 0, 4294967295)]
noncomputable def rs_l_does_b0 : e2_Rs := [((11, 0, 4294967295), h_lb0)]
noncomputable def S_l_does_b0 : List e2_Sm := [s_b176]
noncomputable def I_l_does_b0 : List e2_In := []
set_option maxRecDepth 1000000 in
theorem ck_l_does_b0 : e2_cal S_l_does_b0 I_l_does_b0 4000 0 253 as_l_does_b0 E_lb h_lb0 (e2_fin rs_l_does_b0) = true := by decide +kernel
theorem lp_does_b0 (hen : en_ok) (l : Launch) : ∀ d, 260 ≤ d → ∀ M, e2_MT[253]? = some M → e2_Met l M d as_l_does_b0 E_lb h_lb0 (e2_fin rs_l_does_b0) := fun d hd M hM => e2_cal_ok (S := S_l_does_b0) (I := I_l_does_b0) (H := 250) (fuel := 4000) hen (e2_fa ((cs_b176 hen l).mono (by decide)) e2_fz) e2_fz 0 d (by omega) 253 M hM _ _ _ _ ck_l_does_b0
def as_l_will_b0 : List ev_V := [(2, 83, 0), (11, 0, 4294967295), (11, 0, 4294967295)]
noncomputable def rs_l_will_b0 : e2_Rs := [((11, 0, 4294967295), h_lb0)]
noncomputable def S_l_will_b0 : List e2_Sm := [s_b185]
noncomputable def I_l_will_b0 : List e2_In := []
set_option maxRecDepth 1000000 in
theorem ck_l_will_b0 : e2_cal S_l_will_b0 I_l_will_b0 4000 0 256 as_l_will_b0 E_lb h_lb0 (e2_fin rs_l_will_b0) = true := by decide +kernel
theorem lp_will_b0 (hen : en_ok) (l : Launch) : ∀ d, 260 ≤ d → ∀ M, e2_MT[256]? = some M → e2_Met l M d as_l_will_b0 E_lb h_lb0 (e2_fin rs_l_will_b0) := fun d hd M hM => e2_cal_ok (S := S_l_will_b0) (I := I_l_will_b0) (H := 250) (fuel := 4000) hen (e2_fa ((cs_b185 hen l).mono (by decide)) e2_fz) e2_fz 0 d (by omega) 256 M hM _ _ _ _ ck_l_will_b0
def as_l_field_b0 : List ev_V := [(2, 83, 0), (11, 0, 4294967295)]
noncomputable def rs_l_field_b0 : e2_Rs := [((11, 0, 4294967295), h_lb0)]
noncomputable def S_l_field_b0 : List e2_Sm := [s_b189]
noncomputable def I_l_field_b0 : List e2_In := []
set_option maxRecDepth 1000000 in
theorem ck_l_field_b0 : e2_cal S_l_field_b0 I_l_field_b0 4000 0 257 as_l_field_b0 E_lb h_lb0 (e2_fin rs_l_field_b0) = true := by decide +kernel
theorem lp_field_b0 (hen : en_ok) (l : Launch) : ∀ d, 260 ≤ d → ∀ M, e2_MT[257]? = some M → e2_Met l M d as_l_field_b0 E_lb h_lb0 (e2_fin rs_l_field_b0) := fun d hd M hM => e2_cal_ok (S := S_l_field_b0) (I := I_l_field_b0) (H := 250) (fuel := 4000) hen (e2_fa ((cs_b189 hen l).mono (by decide)) e2_fz) e2_fz 0 d (by omega) 257 M hM _ _ _ _ ck_l_field_b0
def as_l_harm_b0 : List ev_V := [(2, 83, 0)]
noncomputable def rs_l_harm_b0 : e2_Rs := [((11, 0, 4294967295), h_lb0)]
noncomputable def S_l_harm_b0 : List e2_Sm := [s_b193]
noncomputable def I_l_harm_b0 : List e2_In := []
set_option maxRecDepth 1000000 in
theorem ck_l_harm_b0 : e2_cal S_l_harm_b0 I_l_harm_b0 4000 0 258 as_l_harm_b0 E_lb h_lb0 (e2_fin rs_l_harm_b0) = true := by decide +kernel
theorem lp_harm_b0 (hen : en_ok) (l : Launch) : ∀ d, 260 ≤ d → ∀ M, e2_MT[258]? = some M → e2_Met l M d as_l_harm_b0 E_lb h_lb0 (e2_fin rs_l_harm_b0) := fun d hd M hM => e2_cal_ok (S := S_l_harm_b0) (I := I_l_harm_b0) (H := 250) (fuel := 4000) hen (e2_fa ((cs_b193 hen l).mono (by decide)) e2_fz) e2_fz 0 d (by omega) 258 M hM _ _ _ _ ck_l_harm_b0
def as_l_turn_b0 : List ev_V := [(2, 83, 0), (11, 0, 4294967295), (11, 0, 4294967295)]
noncomputable def rs_l_turn_b0 : e2_Rs := [((11, 0, 4294967295), h_lb0)]
noncomputable def S_l_turn_b0 : List e2_Sm := [s_b199]
noncomputable def I_l_turn_b0 : List e2_In := []
set_option maxRecDepth 1000000 in
theorem ck_l_turn_b0 : e2_cal S_l_turn_b0 I_l_turn_b0 4000 0 261 as_l_turn_b0 E_lb h_lb0 (e2_fin rs_l_turn_b0) = true := by decide +kernel
theorem lp_turn_b0 (hen : en_ok) (l : Launch) : ∀ d, 260 ≤ d → ∀ M, e2_MT[261]? = some M → e2_Met l M d as_l_turn_b0 E_lb h_lb0 (e2_fin rs_l_turn_b0) := fun d hd M hM => e2_cal_ok (S := S_l_turn_b0) (I := I_l_turn_b0) (H := 250) (fuel := 4000) hen (e2_fa ((cs_b199 hen l).mono (by decide)) e2_fz) e2_fz 0 d (by omega) 261 M hM _ _ _ _ ck_l_turn_b0
def as_l_plain_b0 : List ev_V := [(2, 83, 0)]
noncomputable def rs_l_plain_b0 : e2_Rs := [((11, 0, 4294967295), h_lb0)]
noncomputable def S_l_plain_b0 : List e2_Sm := [s_b203]
noncomputable def I_l_plain_b0 : List e2_In := []
set_option maxRecDepth 1000000 in
theorem ck_l_plain_b0 : e2_cal S_l_plain_b0 I_l_plain_b0 4000 0 262 as_l_plain_b0 E_lb h_lb0 (e2_fin rs_l_plain_b0) = true := by decide +kernel
theorem lp_plain_b0 (hen : en_ok) (l : Launch) : ∀ d, 260 ≤ d → ∀ M, e2_MT[262]? = some M → e2_Met l M d as_l_plain_b0 E_lb h_lb0 (e2_fin rs_l_plain_b0) := fun d hd M hM => e2_cal_ok (S := S_l_plain_b0) (I := I_l_plain_b0) (H := 250) (fuel := 4000) hen (e2_fa ((cs_b203 hen l).mono (by decide)) e2_fz) e2_fz 0 d (by omega) 262 M hM _ _ _ _ ck_l_plain_b0
def as_l_write_b0 : List ev_V := [(2, 83, 0), (11, 0, 4294967295), (11, 0, 4294967295), (11, 0, 4294967295)]
noncomputable def rs_l_write_b0 : e2_Rs := [((11, 0, 4294967295), h_lb0)]
noncomputable def S_l_write_b0 : List e2_Sm := [s_b213]
noncomputable def I_l_write_b0 : List e2_In := []
set_option maxRecDepth 1000000 in
theorem ck_l_write_b0 : e2_cal S_l_write_b0 I_l_write_b0 4000 0 269 as_l_write_b0 E_lb h_lb0 (e2_fin rs_l_write_b0) = true := by decide +kernel
theorem lp_write_b0 (hen : en_ok) (l : Launch) : ∀ d, 260 ≤ d → ∀ M, e2_MT[269]? = some M → e2_Met l M d as_l_write_b0 E_lb h_lb0 (e2_fin rs_l_write_b0) := fun d hd M hM => e2_cal_ok (S := S_l_write_b0) (I := I_l_write_b0) (H := 250) (fuel := 4000) hen (e2_fa ((cs_b213 hen l (hands_b hen l)).mono (by decide)) e2_fz) e2_fz 0 d (by omega) 269 M hM _ _ _ _ ck_l_write_b0
def as_l_watch_b0 : List ev_V := [(2, 83, 0)]
noncomputable def rs_l_watch_b0 : e2_Rs := [((11, 0, 4294967295), h_lb0)]
noncomputable def S_l_watch_b0 : List e2_Sm := [s_b217]
noncomputable def I_l_watch_b0 : List e2_In := []
set_option maxRecDepth 1000000 in
theorem ck_l_watch_b0 : e2_cal S_l_watch_b0 I_l_watch_b0 4000 0 270 as_l_watch_b0 E_lb h_lb0 (e2_fin rs_l_watch_b0) = true := by decide +kernel
theorem lp_watch_b0 (hen : en_ok) (l : Launch) : ∀ d, 260 ≤ d → ∀ M, e2_MT[270]? = some M → e2_Met l M d as_l_watch_b0 E_lb h_lb0 (e2_fin rs_l_watch_b0) := fun d hd M hM => e2_cal_ok (S := S_l_watch_b0) (I := I_l_watch_b0) (H := 250) (fuel := 4000) hen (e2_fa ((cs_b217 hen l).mono (by decide)) e2_fz) e2_fz 0 d (by omega) 270 M hM _ _ _ _ ck_l_watch_b0
def as_l_cows_b0 : List ev_V := [(2, 83, 0), (11, 0, 4294967295), (11, 0, 4294967295)]
noncomputable def rs_l_cows_b0 : e2_Rs := [((11, 0, 4294967295), h_lb0)]
noncomputable def S_l_cows_b0 : List e2_Sm := [s_b221]
noncomputable def I_l_cows_b0 : List e2_In := []
set_option maxRecDepth 1000000 in
theorem ck_l_cows_b0 : e2_cal S_l_cows_b0 I_l_cows_b0 4000 0 271 as_l_cows_b0 E_lb h_lb0 (e2_fin rs_l_cows_b0) = true := by decide +kernel
theorem lp_cows_b0 (hen : en_ok) (l : Launch) : ∀ d, 260 ≤ d → ∀ M, e2_MT[271]? = some M → e2_Met l M d as_l_cows_b0 E_lb h_lb0 (e2_fin rs_l_cows_b0) := fun d hd M hM => e2_cal_ok (S := S_l_cows_b0) (I := I_l_cows_b0) (H := 250) (fuel := 4000) hen (e2_fa ((cs_b221 hen l (hands_b hen l)).mono (by decide)) e2_fz) e2_fz 0 d (by omega) 271 M hM _ _ _ _ ck_l_cows_b0
def as_l_duel_b0 : List ev_V := [(2, 83, 0), (11, 0, 4294967295), (11, 0, 4294967295), (11, 0, 4294967295), (11, 0, 4294967295)]
noncomputable def rs_l_duel_b0 : e2_Rs := [((11, 0, 4294967295), h_lb0)]
noncomputable def S_l_duel_b0 : List e2_Sm := [s_b227]
noncomputable def I_l_duel_b0 : List e2_In := []
set_option maxRecDepth 1000000 in
theorem ck_l_duel_b0 : e2_cal S_l_duel_b0 I_l_duel_b0 4000 0 274 as_l_duel_b0 E_lb h_lb0 (e2_fin rs_l_duel_b0) = true := by decide +kernel
theorem lp_duel_b0 (hen : en_ok) (l : Launch) : ∀ d, 260 ≤ d → ∀ M, e2_MT[274]? = some M → e2_Met l M d as_l_duel_b0 E_lb h_lb0 (e2_fin rs_l_duel_b0) := fun d hd M hM => e2_cal_ok (S := S_l_duel_b0) (I := I_l_duel_b0) (H := 250) (fuel := 4000) hen (e2_fa ((cs_b227 hen l).mono (by decide)) e2_fz) e2_fz 0 d (by omega) 274 M hM _ _ _ _ ck_l_duel_b0
def as_l_lies_b0 : List ev_V := [(2, 83, 0), (11, 0, 4294967295)]
noncomputable def rs_l_lies_b0 : e2_Rs := [((11, 0, 4294967295), h_lb0)]
noncomputable def S_l_lies_b0 : List e2_Sm := []
noncomputable def I_l_lies_b0 : List e2_In := [(212, 3, e2x_212), (250, 2, e2x_250)]
set_option maxRecDepth 1000000 in
theorem ck_l_lies_b0 : e2_cal S_l_lies_b0 I_l_lies_b0 4000 2 250 as_l_lies_b0 E_lb h_lb0 (e2_fin rs_l_lies_b0) = true := by decide +kernel
theorem lp_lies_b0 (hen : en_ok) (l : Launch) : ∀ d, 260 ≤ d → ∀ M, e2_MT[250]? = some M → e2_Met l M d as_l_lies_b0 E_lb h_lb0 (e2_fin rs_l_lies_b0) := fun d hd M hM => e2_cal_ok (S := S_l_lies_b0) (I := I_l_lies_b0) (H := 250) (fuel := 4000) hen e2_fz (e2_fa ein_212 (e2_fa ein_250 e2_fz)) 2 d (by omega) 250 M hM _ _ _ _ ck_l_lies_b0
def as_l_heard_b0 : List ev_V := [(2, 83, 0), (11, 0, 4294967295), (11, 0, 4294967295), (11, 0, 4294967295), (11, 2147483648, 2147483649)]
noncomputable def rs_l_heard_b0 : e2_Rs := [((11, 0, 4294967295), h_lb0)]
noncomputable def S_l_heard_b0 : List e2_Sm := [s_b231]
noncomputable def I_l_heard_b0 : List e2_In := []
set_option maxRecDepth 1000000 in
theorem ck_l_heard_b0 : e2_cal S_l_heard_b0 I_l_heard_b0 4000 0 278 as_l_heard_b0 E_lb h_lb0 (e2_fin rs_l_heard_b0) = true := by decide +kernel
theorem lp_heard_b0 (hen : en_ok) (l : Launch) : ∀ d, 260 ≤ d → ∀ M, e2_MT[278]? = some M → e2_Met l M d as_l_heard_b0 E_lb h_lb0 (e2_fin rs_l_heard_b0) := fun d hd M hM => e2_cal_ok (S := S_l_heard_b0) (I := I_l_heard_b0) (H := 250) (fuel := 4000) hen (e2_fa ((cs_b231 hen l).mono (by decide)) e2_fz) e2_fz 0 d (by omega) 278 M hM _ _ _ _ ck_l_heard_b0
def as_l_untell_b0 : List ev_V := [(2, 83, 0), (11, 0, 4294967295)]
noncomputable def rs_l_untell_b0 : e2_Rs := [((11, 0, 4294967295), h_lb0)]
noncomputable def S_l_untell_b0 : List e2_Sm := []
noncomputable def I_l_untell_b0 : List e2_In := [(212, 3, e2x_212), (279, 2, e2x_279)]
set_option maxRecDepth 1000000 in
theorem ck_l_untell_b0 : e2_cal S_l_untell_b0 I_l_untell_b0 4000 2 279 as_l_untell_b0 E_lb h_lb0 (e2_fin rs_l_untell_b0) = true := by decide +kernel
theorem lp_untell_b0 (hen : en_ok) (l : Launch) : ∀ d, 260 ≤ d → ∀ M, e2_MT[279]? = some M → e2_Met l M d as_l_untell_b0 E_lb h_lb0 (e2_fin rs_l_untell_b0) := fun d hd M hM => e2_cal_ok (S := S_l_untell_b0) (I := I_l_untell_b0) (H := 250) (fuel := 4000) hen e2_fz (e2_fa ein_212 (e2_fa ein_279 e2_fz)) 2 d (by omega) 279 M hM _ _ _ _ ck_l_untell_b0
def as_l_fit_b0 : List ev_V := [(2, 83, 0), (11, 0, 4294967295)]
noncomputable def rs_l_fit_b0 : e2_Rs := [((11, 0, 4294967295), h_lb0)]
noncomputable def S_l_fit_b0 : List e2_Sm := [s_b234]
noncomputable def I_l_fit_b0 : List e2_In := []
set_option maxRecDepth 1000000 in
theorem ck_l_fit_b0 : e2_cal S_l_fit_b0 I_l_fit_b0 4000 0 283 as_l_fit_b0 E_lb h_lb0 (e2_fin rs_l_fit_b0) = true := by decide +kernel
theorem lp_fit_b0 (hen : en_ok) (l : Launch) : ∀ d, 260 ≤ d → ∀ M, e2_MT[283]? = some M → e2_Met l M d as_l_fit_b0 E_lb h_lb0 (e2_fin rs_l_fit_b0) := fun d hd M hM => e2_cal_ok (S := S_l_fit_b0) (I := I_l_fit_b0) (H := 250) (fuel := 4000) hen (e2_fa ((cs_b234 hen l).mono (by decide)) e2_fz) e2_fz 0 d (by omega) 283 M hM _ _ _ _ ck_l_fit_b0
def as_l_sure_b0 : List ev_V := [(2, 83, 0), (11, 0, 4294967295), (11, 0, 4294967295), (11, 0, 4294967295)]
noncomputable def rs_l_sure_b0 : e2_Rs := [((11, 0, 4294967295), h_lb0)]
noncomputable def S_l_sure_b0 : List e2_Sm := [s_b235]
noncomputable def I_l_sure_b0 : List e2_In := []
set_option maxRecDepth 1000000 in
theorem ck_l_sure_b0 : e2_cal S_l_sure_b0 I_l_sure_b0 4000 0 284 as_l_sure_b0 E_lb h_lb0 (e2_fin rs_l_sure_b0) = true := by decide +kernel
theorem lp_sure_b0 (hen : en_ok) (l : Launch) : ∀ d, 260 ≤ d → ∀ M, e2_MT[284]? = some M → e2_Met l M d as_l_sure_b0 E_lb h_lb0 (e2_fin rs_l_sure_b0) := fun d hd M hM => e2_cal_ok (S := S_l_sure_b0) (I := I_l_sure_b0) (H := 250) (fuel := 4000) hen (e2_fa ((cs_b235 hen l).mono (by decide)) e2_fz) e2_fz 0 d (by omega) 284 M hM _ _ _ _ ck_l_sure_b0
def as_l_ask_b0 : List ev_V := [(2, 83, 0), (11, 0, 4294967295), (11, 0, 4294967295)]
noncomputable def rs_l_ask_b0 : e2_Rs := [((11, 0, 4294967295), h_lb0)]
noncomputable def S_l_ask_b0 : List e2_Sm := [s_b236]
noncomputable def I_l_ask_b0 : List e2_In := []
set_option maxRecDepth 1000000 in
theorem ck_l_ask_b0 : e2_cal S_l_ask_b0 I_l_ask_b0 4000 0 285 as_l_ask_b0 E_lb h_lb0 (e2_fin rs_l_ask_b0) = true := by decide +kernel
theorem lp_ask_b0 (hen : en_ok) (l : Launch) : ∀ d, 260 ≤ d → ∀ M, e2_MT[285]? = some M → e2_Met l M d as_l_ask_b0 E_lb h_lb0 (e2_fin rs_l_ask_b0) := fun d hd M hM => e2_cal_ok (S := S_l_ask_b0) (I := I_l_ask_b0) (H := 250) (fuel := 4000) hen (e2_fa ((cs_b236 hen l).mono (by decide)) e2_fz) e2_fz 0 d (by omega) 285 M hM _ _ _ _ ck_l_ask_b0
def as_l_image_b0 : List ev_V := [(2, 83, 0), (11, 0, 4294967295)]
noncomputable def rs_l_image_b0 : e2_Rs := [((11, 0, 4294967295), h_lb0)]
noncomputable def S_l_image_b0 : List e2_Sm := [s_b237]
noncomputable def I_l_image_b0 : List e2_In := []
set_option maxRecDepth 1000000 in
theorem ck_l_image_b0 : e2_cal S_l_image_b0 I_l_image_b0 4000 0 286 as_l_image_b0 E_lb h_lb0 (e2_fin rs_l_image_b0) = true := by decide +kernel
theorem lp_image_b0 (hen : en_ok) (l : Launch) : ∀ d, 260 ≤ d → ∀ M, e2_MT[286]? = some M → e2_Met l M d as_l_image_b0 E_lb h_lb0 (e2_fin rs_l_image_b0) := fun d hd M hM => e2_cal_ok (S := S_l_image_b0) (I := I_l_image_b0) (H := 250) (fuel := 4000) hen (e2_fa ((cs_b237 hen l).mono (by decide)) e2_fz) e2_fz 0 d (by omega) 286 M hM _ _ _ _ ck_l_image_b0
def as_l_back_b0 : List ev_V := [(2, 83, 0), (11, 0, 4294967295)]
noncomputable def rs_l_back_b0 : e2_Rs := [((11, 0, 4294967295), h_lb0), ((11, 0, 4294967295), h_lb0k)]
noncomputable def S_l_back_b0 : List e2_Sm := [s_b238]
noncomputable def I_l_back_b0 : List e2_In := []
set_option maxRecDepth 1000000 in
theorem ck_l_back_b0 : e2_cal S_l_back_b0 I_l_back_b0 4000 0 287 as_l_back_b0 E_lb h_lb0 (e2_fin rs_l_back_b0) = true := by decide +kernel
theorem lp_back_b0 (hen : en_ok) (l : Launch) : ∀ d, 260 ≤ d → ∀ M, e2_MT[287]? = some M → e2_Met l M d as_l_back_b0 E_lb h_lb0 (e2_fin rs_l_back_b0) := fun d hd M hM => e2_cal_ok (S := S_l_back_b0) (I := I_l_back_b0) (H := 250) (fuel := 4000) hen (e2_fa ((cs_b238 hen l).mono (by decide)) e2_fz) e2_fz 0 d (by omega) 287 M hM _ _ _ _ ck_l_back_b0
def as_l_about_b0 : List ev_V := [(2, 83, 0), (11, 0, 4294967295)]
noncomputable def rs_l_about_b0 : e2_Rs := [((11, 0, 4294967295), h_lb0)]
noncomputable def S_l_about_b0 : List e2_Sm := [s_b239]
noncomputable def I_l_about_b0 : List e2_In := []
set_option maxRecDepth 1000000 in
theorem ck_l_about_b0 : e2_cal S_l_about_b0 I_l_about_b0 4000 0 288 as_l_about_b0 E_lb h_lb0 (e2_fin rs_l_about_b0) = true := by decide +kernel
theorem lp_about_b0 (hen : en_ok) (l : Launch) : ∀ d, 260 ≤ d → ∀ M, e2_MT[288]? = some M → e2_Met l M d as_l_about_b0 E_lb h_lb0 (e2_fin rs_l_about_b0) := fun d hd M hM => e2_cal_ok (S := S_l_about_b0) (I := I_l_about_b0) (H := 250) (fuel := 4000) hen (e2_fa ((cs_b239 hen l).mono (by decide)) e2_fz) e2_fz 0 d (by omega) 288 M hM _ _ _ _ ck_l_about_b0
def lbc126 : ev_C := (52, [(0, 1, 0), (0, 0, 0), (11, 2147483648, 2147483649), (11, 2147483648, 2147483649)])
def lbn274 : e2_Q1 := (lbc126, lbc3)
def lbn275 : e2_Q2 := (lbn18, lbn274)
def lbn276 : e2_Q3 := (lbn17, lbn275)
def lbn277 : e2_Q4 := (lbn276, lbn27)
def lbn278 : e2_Q5 := (lbn14, lbn277)
def lbn279 : e2_Q6 := (lbn278, lbn59)
def lbn280 : e2_Q7 := (lbn279, lbn122)
def lbc127 : ev_C := (61, [])
def lbn281 : e2_Q1 := (lbc127, lbc3)
def lbn282 : e2_Q2 := (lbn201, lbn281)
def lbn283 : e2_Q3 := (lbn200, lbn282)
def lbn284 : e2_Q4 := (lbn283, lbn210)
def lbn285 : e2_Q5 := (lbn197, lbn284)
def lbn286 : e2_Q6 := (lbn285, lbn241)
def lbn287 : e2_Q7 := (lbn184, lbn286)
def lbn288 : e2_Q8 := (lbn280, lbn287)
noncomputable def h_lb1 : ev_H := (lbn288 : e2_Q8)
def lbn289 : e2_Q4 := (lbn276, lbn247)
def lbn290 : e2_Q5 := (lbn14, lbn289)
def lbn291 : e2_Q6 := (lbn290, lbn59)
def lbn292 : e2_Q7 := (lbn291, lbn122)
def lbn293 : e2_Q5 := (lbn261, lbn284)
def lbn294 : e2_Q6 := (lbn293, lbn241)
def lbn295 : e2_Q7 := (lbn257, lbn294)
def lbn296 : e2_Q8 := (lbn292, lbn295)
noncomputable def h_wb1 : ev_H := (lbn296 : e2_Q8)
def lbn297 : e2_Q5 := (lbn269, lbn284)
def lbn298 : e2_Q6 := (lbn297, lbn241)
def lbn299 : e2_Q7 := (lbn184, lbn298)
def lbn300 : e2_Q8 := (lbn280, lbn299)
noncomputable def h_lb1k : ev_H := (lbn300 : e2_Q8)
def as_l_feed_b1 : List ev_V := [(2, 83, 0), (11, 0, 4294967295), (11, 0, 4294967295), (11, 0, 4294967295), (11, 0, 4294967295), (11, 0, 4294967295)]
noncomputable def rs_l_feed_b1 : e2_Rs := [((11, 0, 4294967295), h_lb1)]
noncomputable def S_l_feed_b1 : List e2_Sm := [s_b240]
noncomputable def I_l_feed_b1 : List e2_In := []
set_option maxRecDepth 1000000 in
theorem ck_l_feed_b1 : e2_cal S_l_feed_b1 I_l_feed_b1 4000 0 289 as_l_feed_b1 E_lb h_lb1 (e2_fin rs_l_feed_b1) = true := by decide +kernel
theorem lp_feed_b1 (hen : en_ok) (l : Launch) : ∀ d, 260 ≤ d → ∀ M, e2_MT[289]? = some M → e2_Met l M d as_l_feed_b1 E_lb h_lb1 (e2_fin rs_l_feed_b1) := fun d hd M hM => e2_cal_ok (S := S_l_feed_b1) (I := I_l_feed_b1) (H := 250) (fuel := 4000) hen (e2_fa ((cs_b240 hen l).mono (by decide)) e2_fz) e2_fz 0 d (by omega) 289 M hM _ _ _ _ ck_l_feed_b1
def as_l_end_b1 : List ev_V := [(2, 83, 0), (11, 0, 4294967295)]
noncomputable def rs_l_end_b1 : e2_Rs := [((11, 0, 4294967295), h_lb1)]
noncomputable def S_l_end_b1 : List e2_Sm := []
noncomputable def I_l_end_b1 : List e2_In := [(290, 2, e2x_290)]
set_option maxRecDepth 1000000 in
theorem ck_l_end_b1 : e2_cal S_l_end_b1 I_l_end_b1 4000 1 290 as_l_end_b1 E_lb h_lb1 (e2_fin rs_l_end_b1) = true := by decide +kernel
theorem lp_end_b1 (hen : en_ok) (l : Launch) : ∀ d, 260 ≤ d → ∀ M, e2_MT[290]? = some M → e2_Met l M d as_l_end_b1 E_lb h_lb1 (e2_fin rs_l_end_b1) := fun d hd M hM => e2_cal_ok (S := S_l_end_b1) (I := I_l_end_b1) (H := 250) (fuel := 4000) hen e2_fz (e2_fa ein_290 e2_fz) 1 d (by omega) 290 M hM _ _ _ _ ck_l_end_b1
def as_l_fault_b1 : List ev_V := [(2, 83, 0), (11, 0, 4294967295)]
noncomputable def rs_l_fault_b1 : e2_Rs := [((11, 0, 4294967295), h_lb1)]
noncomputable def S_l_fault_b1 : List e2_Sm := []
noncomputable def I_l_fault_b1 : List e2_In := [(211, 2, e2x_211)]
set_option maxRecDepth 1000000 in
theorem ck_l_fault_b1 : e2_cal S_l_fault_b1 I_l_fault_b1 4000 1 211 as_l_fault_b1 E_lb h_lb1 (e2_fin rs_l_fault_b1) = true := by decide +kernel
theorem lp_fault_b1 (hen : en_ok) (l : Launch) : ∀ d, 260 ≤ d → ∀ M, e2_MT[211]? = some M → e2_Met l M d as_l_fault_b1 E_lb h_lb1 (e2_fin rs_l_fault_b1) := fun d hd M hM => e2_cal_ok (S := S_l_fault_b1) (I := I_l_fault_b1) (H := 250) (fuel := 4000) hen e2_fz (e2_fa ein_211 e2_fz) 1 d (by omega) 211 M hM _ _ _ _ ck_l_fault_b1
def as_l_thing_b1 : List ev_V := [(2, 83, 0), (11, 0, 4294967295)]
noncomputable def rs_l_thing_b1 : e2_Rs := [((11, 0, 4294967295), h_lb1)]
noncomputable def S_l_thing_b1 : List e2_Sm := []
noncomputable def I_l_thing_b1 : List e2_In := [(212, 3, e2x_212), (220, 2, e2x_220), (236, 2, e2x_236)]
set_option maxRecDepth 1000000 in
theorem ck_l_thing_b1 : e2_cal S_l_thing_b1 I_l_thing_b1 4000 3 236 as_l_thing_b1 E_lb h_lb1 (e2_fin rs_l_thing_b1) = true := by decide +kernel
theorem lp_thing_b1 (hen : en_ok) (l : Launch) : ∀ d, 260 ≤ d → ∀ M, e2_MT[236]? = some M → e2_Met l M d as_l_thing_b1 E_lb h_lb1 (e2_fin rs_l_thing_b1) := fun d hd M hM => e2_cal_ok (S := S_l_thing_b1) (I := I_l_thing_b1) (H := 250) (fuel := 4000) hen e2_fz (e2_fa ein_212 (e2_fa ein_220 (e2_fa ein_236 e2_fz))) 3 d (by omega) 236 M hM _ _ _ _ ck_l_thing_b1
def as_l_glyph_b1 : List ev_V := [(2, 83, 0), (11, 0, 4294967295), (11, 0, 4294967295)]
noncomputable def rs_l_glyph_b1 : e2_Rs := [((11, 0, 4294967295), h_lb1)]
noncomputable def S_l_glyph_b1 : List e2_Sm := [s_b137]
noncomputable def I_l_glyph_b1 : List e2_In := []
set_option maxRecDepth 1000000 in
theorem ck_l_glyph_b1 : e2_cal S_l_glyph_b1 I_l_glyph_b1 4000 0 237 as_l_glyph_b1 E_lb h_lb1 (e2_fin rs_l_glyph_b1) = true := by decide +kernel
theorem lp_glyph_b1 (hen : en_ok) (l : Launch) : ∀ d, 260 ≤ d → ∀ M, e2_MT[237]? = some M → e2_Met l M d as_l_glyph_b1 E_lb h_lb1 (e2_fin rs_l_glyph_b1) := fun d hd M hM => e2_cal_ok (S := S_l_glyph_b1) (I := I_l_glyph_b1) (H := 250) (fuel := 4000) hen (e2_fa ((cs_b137 hen l (hands_b hen l)).mono (by decide)) e2_fz) e2_fz 0 d (by omega) 237 M hM _ _ _ _ ck_l_glyph_b1
def as_l_plot_b1 : List ev_V := [(2, 83, 0), (11, 0, 4294967295), (11, 0, 4294967295)]
noncomputable def rs_l_plot_b1 : e2_Rs := [((11, 0, 4294967295), h_lb1)]
noncomputable def S_l_plot_b1 : List e2_Sm := [s_b147]
noncomputable def I_l_plot_b1 : List e2_In := []
set_option maxRecDepth 1000000 in
theorem ck_l_plot_b1 : e2_cal S_l_plot_b1 I_l_plot_b1 4000 0 240 as_l_plot_b1 E_lb h_lb1 (e2_fin rs_l_plot_b1) = true := by decide +kernel
theorem lp_plot_b1 (hen : en_ok) (l : Launch) : ∀ d, 260 ≤ d → ∀ M, e2_MT[240]? = some M → e2_Met l M d as_l_plot_b1 E_lb h_lb1 (e2_fin rs_l_plot_b1) := fun d hd M hM => e2_cal_ok (S := S_l_plot_b1) (I := I_l_plot_b1) (H := 250) (fuel := 4000) hen (e2_fa ((cs_b147 hen l (hands_b hen l)).mono (by decide)) e2_fz) e2_fz 0 d (by omega) 240 M hM _ _ _ _ ck_l_plot_b1
def as_l_mow_b1 : List ev_V := [(2, 83, 0), (11, 0, 4294967295)]
noncomputable def rs_l_mow_b1 : e2_Rs := [((11, 0, 4294967295), h_lb1), ((11, 0, 4294967295), h_lb1k)]
noncomputable def S_l_mow_b1 : List e2_Sm := [s_b150]
noncomputable def I_l_mow_b1 : List e2_In := []
set_option maxRecDepth 1000000 in
theorem ck_l_mow_b1 : e2_cal S_l_mow_b1 I_l_mow_b1 4000 0 243 as_l_mow_b1 E_lb h_lb1 (e2_fin rs_l_mow_b1) = true := by decide +kernel
theorem lp_mow_b1 (hen : en_ok) (l : Launch) : ∀ d, 260 ≤ d → ∀ M, e2_MT[243]? = some M → e2_Met l M d as_l_mow_b1 E_lb h_lb1 (e2_fin rs_l_mow_b1) := fun d hd M hM => e2_cal_ok (S := S_l_mow_b1) (I := I_l_mow_b1) (H := 250) (fuel := 4000) hen (e2_fa ((cs_b150 hen l (hands_b hen l)).mono (by decide)) e2_fz) e2_fz 0 d (by omega) 243 M hM _ _ _ _ ck_l_mow_b1
def as_l_sow_b1 : List ev_V := [(2, 83, 0), (11, 0, 4294967295)]
noncomputable def rs_l_sow_b1 : e2_Rs := [((11, 0, 4294967295), h_lb1), ((11, 0, 4294967295), h_lb1k)]
noncomputable def S_l_sow_b1 : List e2_Sm := [s_b151]
noncomputable def I_l_sow_b1 : List e2_In := []
set_option maxRecDepth 1000000 in
theorem ck_l_sow_b1 : e2_cal S_l_sow_b1 I_l_sow_b1 4000 0 244 as_l_sow_b1 E_lb h_lb1 (e2_fin rs_l_sow_b1) = true := by decide +kernel
theorem lp_sow_b1 (hen : en_ok) (l : Launch) : ∀ d, 260 ≤ d → ∀ M, e2_MT[244]? = some M → e2_Met l M d as_l_sow_b1 E_lb h_lb1 (e2_fin rs_l_sow_b1) := fun d hd M hM => e2_cal_ok (S := S_l_sow_b1) (I := I_l_sow_b1) (H := 250) (fuel := 4000) hen (e2_fa ((cs_b151 hen l (hands_b hen l)).mono (by decide)) e2_fz) e2_fz 0 d (by omega) 244 M hM _ _ _ _ ck_l_sow_b1
def as_l_year_b1 : List ev_V := [(2, 83, 0)]
noncomputable def rs_l_year_b1 : e2_Rs := [((11, 0, 4294967295), h_lb1), ((11, 0, 4294967295), h_lb1k)]
noncomputable def S_l_year_b1 : List e2_Sm := [s_b161]
noncomputable def I_l_year_b1 : List e2_In := []
set_option maxRecDepth 1000000 in
theorem ck_l_year_b1 : e2_cal S_l_year_b1 I_l_year_b1 4000 0 246 as_l_year_b1 E_lb h_lb1 (e2_fin rs_l_year_b1) = true := by decide +kernel
theorem lp_year_b1 (hen : en_ok) (l : Launch) : ∀ d, 260 ≤ d → ∀ M, e2_MT[246]? = some M → e2_Met l M d as_l_year_b1 E_lb h_lb1 (e2_fin rs_l_year_b1) := fun d hd M hM => e2_cal_ok (S := S_l_year_b1) (I := I_l_year_b1) (H := 250) (fuel := 4000) hen (e2_fa ((cs_b161 hen l (hands_b hen l)).mono (by decide)) e2_fz) e2_fz 0 d (by omega) 246 M hM _ _ _ _ ck_l_year_b1
def as_l_readings_b1 : List ev_V := [(2, 83, 0)]
noncomputable def rs_l_readings_b1 : e2_Rs := [((11, 0, 4294967295), h_lb1)]
noncomputable def S_l_readings_b1 : List e2_Sm := [s_b165]
noncomputable def I_l_readings_b1 : List e2_In := []
set_option maxRecDepth 1000000 in
theorem ck_l_readings_b1 : e2_cal S_l_readings_b1 I_l_readings_b1 4000 0 249 as_l_readings_b1 E_lb h_lb1 (e2_fin rs_l_readings_b1) = true := by decide +kernel
theorem lp_readings_b1 (hen : en_ok) (l : Launch) : ∀ d, 260 ≤ d → ∀ M, e2_MT[249]? = some M → e2_Met l M d as_l_readings_b1 E_lb h_lb1 (e2_fin rs_l_readings_b1) := fun d hd M hM => e2_cal_ok (S := S_l_readings_b1) (I := I_l_readings_b1) (H := 250) (fuel := 4000) hen (e2_fa ((cs_b165 hen l (hands_b hen l)).mono (by decide)) e2_fz) e2_fz 0 d (by omega) 249 M hM _ _ _ _ ck_l_readings_b1
def as_l_taken_b1 : List ev_V := [(2, 83, 0)]
noncomputable def rs_l_taken_b1 : e2_Rs := [((11, 0, 4294967295), h_lb1)]
noncomputable def S_l_taken_b1 : List e2_Sm := [s_b169]
noncomputable def I_l_taken_b1 : List e2_In := []
set_option maxRecDepth 1000000 in
theorem ck_l_taken_b1 : e2_cal S_l_taken_b1 I_l_taken_b1 4000 0 251 as_l_taken_b1 E_lb h_lb1 (e2_fin rs_l_taken_b1) = true := by decide +kernel
theorem lp_taken_b1 (hen : en_ok) (l : Launch) : ∀ d, 260 ≤ d → ∀ M, e2_MT[251]? = some M → e2_Met l M d as_l_taken_b1 E_lb h_lb1 (e2_fin rs_l_taken_b1) := fun d hd M hM => e2_cal_ok (S := S_l_taken_b1) (I := I_l_taken_b1) (H := 250) (fuel := 4000) hen (e2_fa ((cs_b169 hen l (hands_b hen l)).mono (by decide)) e2_fz) e2_fz 0 d (by omega) 251 M hM _ _ _ _ ck_l_taken_b1
def as_l_weight_b1 : List ev_V := [(2, 83, 0)]
noncomputable def rs_l_weight_b1 : e2_Rs := [((11, 0, 4294967295), h_lb1)]
noncomputable def S_l_weight_b1 : List e2_Sm := [s_b173]
noncomputable def I_l_weight_b1 : List e2_In := []
set_option maxRecDepth 1000000 in
theorem ck_l_weight_b1 : e2_cal S_l_weight_b1 I_l_weight_b1 4000 0 252 as_l_weight_b1 E_lb h_lb1 (e2_fin rs_l_weight_b1) = true := by decide +kernel
theorem lp_weight_b1 (hen : en_ok) (l : Launch) : ∀ d, 260 ≤ d → ∀ M, e2_MT[252]? = some M → e2_Met l M d as_l_weight_b1 E_lb h_lb1 (e2_fin rs_l_weight_b1) := fun d hd M hM => e2_cal_ok (S := S_l_weight_b1) (I := I_l_weight_b1) (H := 250) (fuel := 4000) hen (e2_fa ((cs_b173 hen l (hands_b hen l)).mono (by decide)) e2_fz) e2_fz 0 d (by omega) 252 M hM _ _ _ _ ck_l_weight_b1
def as_l_does_b1 : List ev_V := [(2, 83, 0), (11, 0, 4294967295)]
noncomputable def rs_l_does_b1 : e2_Rs := [((11, 0, 4294967295), h_lb1)]
noncomputable def S_l_does_b1 : List e2_Sm := [s_b177]
noncomputable def I_l_does_b1 : List e2_In := []
set_option maxRecDepth 1000000 in
theorem ck_l_does_b1 : e2_cal S_l_does_b1 I_l_does_b1 4000 0 253 as_l_does_b1 E_lb h_lb1 (e2_fin rs_l_does_b1) = true := by decide +kernel
theorem lp_does_b1 (hen : en_ok) (l : Launch) : ∀ d, 260 ≤ d → ∀ M, e2_MT[253]? = some M → e2_Met l M d as_l_does_b1 E_lb h_lb1 (e2_fin rs_l_does_b1) := fun d hd M hM => e2_cal_ok (S := S_l_does_b1) (I := I_l_does_b1) (H := 250) (fuel := 4000) hen (e2_fa ((cs_b177 hen l (hands_b hen l)).mono (by decide)) e2_fz) e2_fz 0 d (by omega) 253 M hM _ _ _ _ ck_l_does_b1
def as_l_will_b1 : List ev_V := [(2, 83, 0), (11, 0, 4294967295), (11, 0, 4294967295)]
noncomputable def rs_l_will_b1 : e2_Rs := [((11, 0, 4294967295), h_lb1)]
noncomputable def S_l_will_b1 : List e2_Sm := [s_b186]
noncomputable def I_l_will_b1 : List e2_In := []
set_option maxRecDepth 1000000 in
theorem ck_l_will_b1 : e2_cal S_l_will_b1 I_l_will_b1 4000 0 256 as_l_will_b1 E_lb h_lb1 (e2_fin rs_l_will_b1) = true := by decide +kernel
theorem lp_will_b1 (hen : en_ok) (l : Launch) : ∀ d, 260 ≤ d → ∀ M, e2_MT[256]? = some M → e2_Met l M d as_l_will_b1 E_lb h_lb1 (e2_fin rs_l_will_b1) := fun d hd M hM => e2_cal_ok (S := S_l_will_b1) (I := I_l_will_b1) (H := 250) (fuel := 4000) hen (e2_fa ((cs_b186 hen l (hands_b hen l)).mono (by decide)) e2_fz) e2_fz 0 d (by omega) 256 M hM _ _ _ _ ck_l_will_b1
def as_l_field_b1 : List ev_V := [(2, 83, 0), (11, 0, 4294967295)]
noncomputable def rs_l_field_b1 : e2_Rs := [((11, 0, 4294967295), h_lb1)]
noncomputable def S_l_field_b1 : List e2_Sm := [s_b190]
noncomputable def I_l_field_b1 : List e2_In := []
set_option maxRecDepth 1000000 in
theorem ck_l_field_b1 : e2_cal S_l_field_b1 I_l_field_b1 4000 0 257 as_l_field_b1 E_lb h_lb1 (e2_fin rs_l_field_b1) = true := by decide +kernel
theorem lp_field_b1 (hen : en_ok) (l : Launch) : ∀ d, 260 ≤ d → ∀ M, e2_MT[257]? = some M → e2_Met l M d as_l_field_b1 E_lb h_lb1 (e2_fin rs_l_field_b1) := fun d hd M hM => e2_cal_ok (S := S_l_field_b1) (I := I_l_field_b1) (H := 250) (fuel := 4000) hen (e2_fa ((cs_b190 hen l (hands_b hen l)).mono (by decide)) e2_fz) e2_fz 0 d (by omega) 257 M hM _ _ _ _ ck_l_field_b1
def as_l_harm_b1 : List ev_V := [(2, 83, 0)]
noncomputable def rs_l_harm_b1 : e2_Rs := [((11, 0, 4294967295), h_lb1)]
noncomputable def S_l_harm_b1 : List e2_Sm := [s_b194]
noncomputable def I_l_harm_b1 : List e2_In := []
set_option maxRecDepth 1000000 in
theorem ck_l_harm_b1 : e2_cal S_l_harm_b1 I_l_harm_b1 4000 0 258 as_l_harm_b1 E_lb h_lb1 (e2_fin rs_l_harm_b1) = true := by decide +kernel
theorem lp_harm_b1 (hen : en_ok) (l : Launch) : ∀ d, 260 ≤ d → ∀ M, e2_MT[258]? = some M → e2_Met l M d as_l_harm_b1 E_lb h_lb1 (e2_fin rs_l_harm_b1) := fun d hd M hM => e2_cal_ok (S := S_l_harm_b1) (I := I_l_harm_b1) (H := 250) (fuel := 4000) hen (e2_fa ((cs_b194 hen l (hands_b hen l)).mono (by decide)) e2_fz) e2_fz 0 d (by omega) 258 M hM _ _ _ _ ck_l_harm_b1
def as_l_turn_b1 : List ev_V := [(2, 83, 0), (11, 0, 4294967295), (11, 0, 4294967295)]
noncomputable def rs_l_turn_b1 : e2_Rs := [((11, 0, 4294967295), h_lb1)]
noncomputable def S_l_turn_b1 : List e2_Sm := [s_b200]
noncomputable def I_l_turn_b1 : List e2_In := []
set_option maxRecDepth 1000000 in
theorem ck_l_turn_b1 : e2_cal S_l_turn_b1 I_l_turn_b1 4000 0 261 as_l_turn_b1 E_lb h_lb1 (e2_fin rs_l_turn_b1) = true := by decide +kernel
theorem lp_turn_b1 (hen : en_ok) (l : Launch) : ∀ d, 260 ≤ d → ∀ M, e2_MT[261]? = some M → e2_Met l M d as_l_turn_b1 E_lb h_lb1 (e2_fin rs_l_turn_b1) := fun d hd M hM => e2_cal_ok (S := S_l_turn_b1) (I := I_l_turn_b1) (H := 250) (fuel := 4000) hen (e2_fa ((cs_b200 hen l (hands_b hen l)).mono (by decide)) e2_fz) e2_fz 0 d (by omega) 261 M hM _ _ _ _ ck_l_turn_b1
def as_l_plain_b1 : List ev_V := [(2, 83, 0)]
noncomputable def rs_l_plain_b1 : e2_Rs := [((11, 0, 4294967295), h_lb1)]
noncomputable def S_l_plain_b1 : List e2_Sm := [s_b204]
noncomputable def I_l_plain_b1 : List e2_In := []
set_option maxRecDepth 1000000 in
theorem ck_l_plain_b1 : e2_cal S_l_plain_b1 I_l_plain_b1 4000 0 262 as_l_plain_b1 E_lb h_lb1 (e2_fin rs_l_plain_b1) = true := by decide +kernel
theorem lp_plain_b1 (hen : en_ok) (l : Launch) : ∀ d, 260 ≤ d → ∀ M, e2_MT[262]? = some M → e2_Met l M d as_l_plain_b1 E_lb h_lb1 (e2_fin rs_l_plain_b1) := fun d hd M hM => e2_cal_ok (S := S_l_plain_b1) (I := I_l_plain_b1) (H := 250) (fuel := 4000) hen (e2_fa ((cs_b204 hen l (hands_b hen l)).mono (by decide)) e2_fz) e2_fz 0 d (by omega) 262 M hM _ _ _ _ ck_l_plain_b1
def as_l_write_b1 : List ev_V := [(2, 83, 0), (11, 0, 4294967295), (11, 0, 4294967295), (11, 0, 4294967295)]
noncomputable def rs_l_write_b1 : e2_Rs := [((11, 0, 4294967295), h_lb1)]
noncomputable def S_l_write_b1 : List e2_Sm := [s_b214]
noncomputable def I_l_write_b1 : List e2_In := []
set_option maxRecDepth 1000000 in
theorem ck_l_write_b1 : e2_cal S_l_write_b1 I_l_write_b1 4000 0 269 as_l_write_b1 E_lb h_lb1 (e2_fin rs_l_write_b1) = true := by decide +kernel
theorem lp_write_b1 (hen : en_ok) (l : Launch) : ∀ d, 260 ≤ d → ∀ M, e2_MT[269]? = some M → e2_Met l M d as_l_write_b1 E_lb h_lb1 (e2_fin rs_l_write_b1) := fun d hd M hM => e2_cal_ok (S := S_l_write_b1) (I := I_l_write_b1) (H := 250) (fuel := 4000) hen (e2_fa ((cs_b214 hen l (hands_b hen l)).mono (by decide)) e2_fz) e2_fz 0 d (by omega) 269 M hM _ _ _ _ ck_l_write_b1
def as_l_watch_b1 : List ev_V := [(2, 83, 0)]
noncomputable def rs_l_watch_b1 : e2_Rs := [((11, 0, 4294967295), h_lb1)]
noncomputable def S_l_watch_b1 : List e2_Sm := [s_b218]
noncomputable def I_l_watch_b1 : List e2_In := []
set_option maxRecDepth 1000000 in
theorem ck_l_watch_b1 : e2_cal S_l_watch_b1 I_l_watch_b1 4000 0 270 as_l_watch_b1 E_lb h_lb1 (e2_fin rs_l_watch_b1) = true := by decide +kernel
theorem lp_watch_b1 (hen : en_ok) (l : Launch) : ∀ d, 260 ≤ d → ∀ M, e2_MT[270]? = some M → e2_Met l M d as_l_watch_b1 E_lb h_lb1 (e2_fin rs_l_watch_b1) := fun d hd M hM => e2_cal_ok (S := S_l_watch_b1) (I := I_l_watch_b1) (H := 250) (fuel := 4000) hen (e2_fa ((cs_b218 hen l (hands_b hen l)).mono (by decide)) e2_fz) e2_fz 0 d (by omega) 270 M hM _ _ _ _ ck_l_watch_b1
def as_l_cows_b1 : List ev_V := [(2, 83, 0), (11, 0, 4294967295), (11, 0, 4294967295)]
noncomputable def rs_l_cows_b1 : e2_Rs := [((11, 0, 4294967295), h_lb1)]
noncomputable def S_l_cows_b1 : List e2_Sm := [s_b222]
noncomputable def I_l_cows_b1 : List e2_In := []
set_option maxRecDepth 1000000 in
theorem ck_l_cows_b1 : e2_cal S_l_cows_b1 I_l_cows_b1 4000 0 271 as_l_cows_b1 E_lb h_lb1 (e2_fin rs_l_cows_b1) = true := by decide +kernel
theorem lp_cows_b1 (hen : en_ok) (l : Launch) : ∀ d, 260 ≤ d → ∀ M, e2_MT[271]? = some M → e2_Met l M d as_l_cows_b1 E_lb h_lb1 (e2_fin rs_l_cows_b1) := fun d hd M hM => e2_cal_ok (S := S_l_cows_b1) (I := I_l_cows_b1) (H := 250) (fuel := 4000) hen (e2_fa ((cs_b222 hen l (hands_b hen l)).mono (by decide)) e2_fz) e2_fz 0 d (by omega) 271 M hM _ _ _ _ ck_l_cows_b1
def as_l_duel_b1 : List ev_V := [(2, 83, 0), (11, 0, 4294967295), (11, 0, 4294967295), (11, 0, 4294967295), (11, 0, 4294967295)]
noncomputable def rs_l_duel_b1 : e2_Rs := [((11, 0, 4294967295), h_lb1)]
noncomputable def S_l_duel_b1 : List e2_Sm := [s_b228]
noncomputable def I_l_duel_b1 : List e2_In := []
set_option maxRecDepth 1000000 in
theorem ck_l_duel_b1 : e2_cal S_l_duel_b1 I_l_duel_b1 4000 0 274 as_l_duel_b1 E_lb h_lb1 (e2_fin rs_l_duel_b1) = true := by decide +kernel
theorem lp_duel_b1 (hen : en_ok) (l : Launch) : ∀ d, 260 ≤ d → ∀ M, e2_MT[274]? = some M → e2_Met l M d as_l_duel_b1 E_lb h_lb1 (e2_fin rs_l_duel_b1) := fun d hd M hM => e2_cal_ok (S := S_l_duel_b1) (I := I_l_duel_b1) (H := 250) (fuel := 4000) hen (e2_fa ((cs_b228 hen l (hands_b hen l)).mono (by decide)) e2_fz) e2_fz 0 d (by omega) 274 M hM _ _ _ _ ck_l_duel_b1
def as_l_lies_b1 : List ev_V := [(2, 83, 0), (11, 0, 4294967295)]
noncomputable def rs_l_lies_b1 : e2_Rs := [((11, 0, 4294967295), h_lb1)]
noncomputable def S_l_lies_b1 : List e2_Sm := []
noncomputable def I_l_lies_b1 : List e2_In := [(212, 3, e2x_212), (250, 2, e2x_250)]
set_option maxRecDepth 1000000 in
theorem ck_l_lies_b1 : e2_cal S_l_lies_b1 I_l_lies_b1 4000 2 250 as_l_lies_b1 E_lb h_lb1 (e2_fin rs_l_lies_b1) = true := by decide +kernel
theorem lp_lies_b1 (hen : en_ok) (l : Launch) : ∀ d, 260 ≤ d → ∀ M, e2_MT[250]? = some M → e2_Met l M d as_l_lies_b1 E_lb h_lb1 (e2_fin rs_l_lies_b1) := fun d hd M hM => e2_cal_ok (S := S_l_lies_b1) (I := I_l_lies_b1) (H := 250) (fuel := 4000) hen e2_fz (e2_fa ein_212 (e2_fa ein_250 e2_fz)) 2 d (by omega) 250 M hM _ _ _ _ ck_l_lies_b1
def as_l_heard_b1 : List ev_V := [(2, 83, 0), (11, 0, 4294967295), (11, 0, 4294967295), (11, 0, 4294967295), (11, 2147483648, 2147483649)]
noncomputable def rs_l_heard_b1 : e2_Rs := [((11, 0, 4294967295), h_lb1)]
noncomputable def S_l_heard_b1 : List e2_Sm := [s_b231]
noncomputable def I_l_heard_b1 : List e2_In := []
set_option maxRecDepth 1000000 in
theorem ck_l_heard_b1 : e2_cal S_l_heard_b1 I_l_heard_b1 4000 0 278 as_l_heard_b1 E_lb h_lb1 (e2_fin rs_l_heard_b1) = true := by decide +kernel
theorem lp_heard_b1 (hen : en_ok) (l : Launch) : ∀ d, 260 ≤ d → ∀ M, e2_MT[278]? = some M → e2_Met l M d as_l_heard_b1 E_lb h_lb1 (e2_fin rs_l_heard_b1) := fun d hd M hM => e2_cal_ok (S := S_l_heard_b1) (I := I_l_heard_b1) (H := 250) (fuel := 4000) hen (e2_fa ((cs_b231 hen l).mono (by decide)) e2_fz) e2_fz 0 d (by omega) 278 M hM _ _ _ _ ck_l_heard_b1
def as_l_untell_b1 : List ev_V := [(2, 83, 0), (11, 0, 4294967295)]
noncomputable def rs_l_untell_b1 : e2_Rs := [((11, 0, 4294967295), h_lb1)]
noncomputable def S_l_untell_b1 : List e2_Sm := []
noncomputable def I_l_untell_b1 : List e2_In := [(212, 3, e2x_212), (279, 2, e2x_279)]
set_option maxRecDepth 1000000 in
theorem ck_l_untell_b1 : e2_cal S_l_untell_b1 I_l_untell_b1 4000 2 279 as_l_untell_b1 E_lb h_lb1 (e2_fin rs_l_untell_b1) = true := by decide +kernel
theorem lp_untell_b1 (hen : en_ok) (l : Launch) : ∀ d, 260 ≤ d → ∀ M, e2_MT[279]? = some M → e2_Met l M d as_l_untell_b1 E_lb h_lb1 (e2_fin rs_l_untell_b1) := fun d hd M hM => e2_cal_ok (S := S_l_untell_b1) (I := I_l_untell_b1) (H := 250) (fuel := 4000) hen e2_fz (e2_fa ein_212 (e2_fa ein_279 e2_fz)) 2 d (by omega) 279 M hM _ _ _ _ ck_l_untell_b1
def as_l_fit_b1 : List ev_V := [(2, 83, 0), (11, 0, 4294967295)]
noncomputable def rs_l_fit_b1 : e2_Rs := [((11, 0, 4294967295), h_lb1)]
noncomputable def S_l_fit_b1 : List e2_Sm := [s_b234]
noncomputable def I_l_fit_b1 : List e2_In := []
set_option maxRecDepth 1000000 in
theorem ck_l_fit_b1 : e2_cal S_l_fit_b1 I_l_fit_b1 4000 0 283 as_l_fit_b1 E_lb h_lb1 (e2_fin rs_l_fit_b1) = true := by decide +kernel
theorem lp_fit_b1 (hen : en_ok) (l : Launch) : ∀ d, 260 ≤ d → ∀ M, e2_MT[283]? = some M → e2_Met l M d as_l_fit_b1 E_lb h_lb1 (e2_fin rs_l_fit_b1) := fun d hd M hM => e2_cal_ok (S := S_l_fit_b1) (I := I_l_fit_b1) (H := 250) (fuel := 4000) hen (e2_fa ((cs_b234 hen l).mono (by decide)) e2_fz) e2_fz 0 d (by omega) 283 M hM _ _ _ _ ck_l_fit_b1
def as_l_sure_b1 : List ev_V := [(2, 83, 0), (11, 0, 4294967295), (11, 0, 4294967295), (11, 0, 4294967295)]
noncomputable def rs_l_sure_b1 : e2_Rs := [((11, 0, 4294967295), h_lb1)]
noncomputable def S_l_sure_b1 : List e2_Sm := [s_b235]
noncomputable def I_l_sure_b1 : List e2_In := []
set_option maxRecDepth 1000000 in
theorem ck_l_sure_b1 : e2_cal S_l_sure_b1 I_l_sure_b1 4000 0 284 as_l_sure_b1 E_lb h_lb1 (e2_fin rs_l_sure_b1) = true := by decide +kernel
theorem lp_sure_b1 (hen : en_ok) (l : Launch) : ∀ d, 260 ≤ d → ∀ M, e2_MT[284]? = some M → e2_Met l M d as_l_sure_b1 E_lb h_lb1 (e2_fin rs_l_sure_b1) := fun d hd M hM => e2_cal_ok (S := S_l_sure_b1) (I := I_l_sure_b1) (H := 250) (fuel := 4000) hen (e2_fa ((cs_b235 hen l).mono (by decide)) e2_fz) e2_fz 0 d (by omega) 284 M hM _ _ _ _ ck_l_sure_b1
def as_l_ask_b1 : List ev_V := [(2, 83, 0), (11, 0, 4294967295), (11, 0, 4294967295)]
noncomputable def rs_l_ask_b1 : e2_Rs := [((11, 0, 4294967295), h_lb1)]
noncomputable def S_l_ask_b1 : List e2_Sm := [s_b236]
noncomputable def I_l_ask_b1 : List e2_In := []
set_option maxRecDepth 1000000 in
theorem ck_l_ask_b1 : e2_cal S_l_ask_b1 I_l_ask_b1 4000 0 285 as_l_ask_b1 E_lb h_lb1 (e2_fin rs_l_ask_b1) = true := by decide +kernel
theorem lp_ask_b1 (hen : en_ok) (l : Launch) : ∀ d, 260 ≤ d → ∀ M, e2_MT[285]? = some M → e2_Met l M d as_l_ask_b1 E_lb h_lb1 (e2_fin rs_l_ask_b1) := fun d hd M hM => e2_cal_ok (S := S_l_ask_b1) (I := I_l_ask_b1) (H := 250) (fuel := 4000) hen (e2_fa ((cs_b236 hen l).mono (by decide)) e2_fz) e2_fz 0 d (by omega) 285 M hM _ _ _ _ ck_l_ask_b1
def as_l_image_b1 : List ev_V := [(2, 83, 0), (11, 0, 4294967295)]
noncomputable def rs_l_image_b1 : e2_Rs := [((11, 0, 4294967295), h_lb1)]
noncomputable def S_l_image_b1 : List e2_Sm := [s_b237]
noncomputable def I_l_image_b1 : List e2_In := []
set_option maxRecDepth 1000000 in
theorem ck_l_image_b1 : e2_cal S_l_image_b1 I_l_image_b1 4000 0 286 as_l_image_b1 E_lb h_lb1 (e2_fin rs_l_image_b1) = true := by decide +kernel
theorem lp_image_b1 (hen : en_ok) (l : Launch) : ∀ d, 260 ≤ d → ∀ M, e2_MT[286]? = some M → e2_Met l M d as_l_image_b1 E_lb h_lb1 (e2_fin rs_l_image_b1) := fun d hd M hM => e2_cal_ok (S := S_l_image_b1) (I := I_l_image_b1) (H := 250) (fuel := 4000) hen (e2_fa ((cs_b237 hen l).mono (by decide)) e2_fz) e2_fz 0 d (by omega) 286 M hM _ _ _ _ ck_l_image_b1
def as_l_back_b1 : List ev_V := [(2, 83, 0), (11, 0, 4294967295)]
noncomputable def rs_l_back_b1 : e2_Rs := [((11, 0, 4294967295), h_lb1), ((11, 0, 4294967295), h_lb1k)]
noncomputable def S_l_back_b1 : List e2_Sm := [s_b238]
noncomputable def I_l_back_b1 : List e2_In := []
set_option maxRecDepth 1000000 in
theorem ck_l_back_b1 : e2_cal S_l_back_b1 I_l_back_b1 4000 0 287 as_l_back_b1 E_lb h_lb1 (e2_fin rs_l_back_b1) = true := by decide +kernel
theorem lp_back_b1 (hen : en_ok) (l : Launch) : ∀ d, 260 ≤ d → ∀ M, e2_MT[287]? = some M → e2_Met l M d as_l_back_b1 E_lb h_lb1 (e2_fin rs_l_back_b1) := fun d hd M hM => e2_cal_ok (S := S_l_back_b1) (I := I_l_back_b1) (H := 250) (fuel := 4000) hen (e2_fa ((cs_b238 hen l).mono (by decide)) e2_fz) e2_fz 0 d (by omega) 287 M hM _ _ _ _ ck_l_back_b1
def as_l_about_b1 : List ev_V := [(2, 83, 0), (11, 0, 4294967295)]
noncomputable def rs_l_about_b1 : e2_Rs := [((11, 0, 4294967295), h_lb1)]
noncomputable def S_l_about_b1 : List e2_Sm := [s_b239]
noncomputable def I_l_about_b1 : List e2_In := []
set_option maxRecDepth 1000000 in
theorem ck_l_about_b1 : e2_cal S_l_about_b1 I_l_about_b1 4000 0 288 as_l_about_b1 E_lb h_lb1 (e2_fin rs_l_about_b1) = true := by decide +kernel
theorem lp_about_b1 (hen : en_ok) (l : Launch) : ∀ d, 260 ≤ d → ∀ M, e2_MT[288]? = some M → e2_Met l M d as_l_about_b1 E_lb h_lb1 (e2_fin rs_l_about_b1) := fun d hd M hM => e2_cal_ok (S := S_l_about_b1) (I := I_l_about_b1) (H := 250) (fuel := 4000) hen (e2_fa ((cs_b239 hen l).mono (by decide)) e2_fz) e2_fz 0 d (by omega) 288 M hM _ _ _ _ ck_l_about_b1
def lbc128 : ev_C := (52, [(0, 0, 0), (0, 1, 0), (11, 2147483648, 2147483649), (11, 2147483648, 2147483649)])
def lbn301 : e2_Q1 := (lbc128, lbc3)
def lbn302 : e2_Q2 := (lbn18, lbn301)
def lbn303 : e2_Q3 := (lbn17, lbn302)
def lbn304 : e2_Q4 := (lbn303, lbn27)
def lbn305 : e2_Q5 := (lbn14, lbn304)
def lbn306 : e2_Q6 := (lbn305, lbn59)
def lbn307 : e2_Q7 := (lbn306, lbn122)
def lbc129 : ev_C := (62, [])
def lbn308 : e2_Q1 := (lbc129, lbc3)
def lbn309 : e2_Q2 := (lbn201, lbn308)
def lbn310 : e2_Q3 := (lbn200, lbn309)
def lbn311 : e2_Q4 := (lbn310, lbn210)
def lbn312 : e2_Q5 := (lbn197, lbn311)
def lbn313 : e2_Q6 := (lbn312, lbn241)
def lbn314 : e2_Q7 := (lbn184, lbn313)
def lbn315 : e2_Q8 := (lbn307, lbn314)
noncomputable def h_lb2 : ev_H := (lbn315 : e2_Q8)
def lbn316 : e2_Q4 := (lbn303, lbn247)
def lbn317 : e2_Q5 := (lbn14, lbn316)
def lbn318 : e2_Q6 := (lbn317, lbn59)
def lbn319 : e2_Q7 := (lbn318, lbn122)
def lbn320 : e2_Q5 := (lbn261, lbn311)
def lbn321 : e2_Q6 := (lbn320, lbn241)
def lbn322 : e2_Q7 := (lbn257, lbn321)
def lbn323 : e2_Q8 := (lbn319, lbn322)
noncomputable def h_wb2 : ev_H := (lbn323 : e2_Q8)
def lbn324 : e2_Q5 := (lbn269, lbn311)
def lbn325 : e2_Q6 := (lbn324, lbn241)
def lbn326 : e2_Q7 := (lbn184, lbn325)
def lbn327 : e2_Q8 := (lbn307, lbn326)
noncomputable def h_lb2k : ev_H := (lbn327 : e2_Q8)
def as_l_feed_b2 : List ev_V := [(2, 83, 0), (11, 0, 4294967295), (11, 0, 4294967295), (11, 0, 4294967295), (11, 0, 4294967295), (11, 0, 4294967295)]
noncomputable def rs_l_feed_b2 : e2_Rs := [((11, 0, 4294967295), h_lb2)]
noncomputable def S_l_feed_b2 : List e2_Sm := [s_b240]
noncomputable def I_l_feed_b2 : List e2_In := []
set_option maxRecDepth 1000000 in
theorem ck_l_feed_b2 : e2_cal S_l_feed_b2 I_l_feed_b2 4000 0 289 as_l_feed_b2 E_lb h_lb2 (e2_fin rs_l_feed_b2) = true := by decide +kernel
theorem lp_feed_b2 (hen : en_ok) (l : Launch) : ∀ d, 260 ≤ d → ∀ M, e2_MT[289]? = some M → e2_Met l M d as_l_feed_b2 E_lb h_lb2 (e2_fin rs_l_feed_b2) := fun d hd M hM => e2_cal_ok (S := S_l_feed_b2) (I := I_l_feed_b2) (H := 250) (fuel := 4000) hen (e2_fa ((cs_b240 hen l).mono (by decide)) e2_fz) e2_fz 0 d (by omega) 289 M hM _ _ _ _ ck_l_feed_b2
def as_l_end_b2 : List ev_V := [(2, 83, 0), (11, 0, 4294967295)]
noncomputable def rs_l_end_b2 : e2_Rs := [((11, 0, 4294967295), h_lb2)]
noncomputable def S_l_end_b2 : List e2_Sm := []
noncomputable def I_l_end_b2 : List e2_In := [(290, 2, e2x_290)]
set_option maxRecDepth 1000000 in
theorem ck_l_end_b2 : e2_cal S_l_end_b2 I_l_end_b2 4000 1 290 as_l_end_b2 E_lb h_lb2 (e2_fin rs_l_end_b2) = true := by decide +kernel
theorem lp_end_b2 (hen : en_ok) (l : Launch) : ∀ d, 260 ≤ d → ∀ M, e2_MT[290]? = some M → e2_Met l M d as_l_end_b2 E_lb h_lb2 (e2_fin rs_l_end_b2) := fun d hd M hM => e2_cal_ok (S := S_l_end_b2) (I := I_l_end_b2) (H := 250) (fuel := 4000) hen e2_fz (e2_fa ein_290 e2_fz) 1 d (by omega) 290 M hM _ _ _ _ ck_l_end_b2
def as_l_fault_b2 : List ev_V := [(2, 83, 0), (11, 0, 4294967295)]
noncomputable def rs_l_fault_b2 : e2_Rs := [((11, 0, 4294967295), h_lb2)]
noncomputable def S_l_fault_b2 : List e2_Sm := []
noncomputable def I_l_fault_b2 : List e2_In := [(211, 2, e2x_211)]
set_option maxRecDepth 1000000 in
theorem ck_l_fault_b2 : e2_cal S_l_fault_b2 I_l_fault_b2 4000 1 211 as_l_fault_b2 E_lb h_lb2 (e2_fin rs_l_fault_b2) = true := by decide +kernel
theorem lp_fault_b2 (hen : en_ok) (l : Launch) : ∀ d, 260 ≤ d → ∀ M, e2_MT[211]? = some M → e2_Met l M d as_l_fault_b2 E_lb h_lb2 (e2_fin rs_l_fault_b2) := fun d hd M hM => e2_cal_ok (S := S_l_fault_b2) (I := I_l_fault_b2) (H := 250) (fuel := 4000) hen e2_fz (e2_fa ein_211 e2_fz) 1 d (by omega) 211 M hM _ _ _ _ ck_l_fault_b2
def as_l_thing_b2 : List ev_V := [(2, 83, 0), (11, 0, 4294967295)]
noncomputable def rs_l_thing_b2 : e2_Rs := [((11, 0, 4294967295), h_lb2)]
noncomputable def S_l_thing_b2 : List e2_Sm := []
noncomputable def I_l_thing_b2 : List e2_In := [(212, 3, e2x_212), (220, 2, e2x_220), (236, 2, e2x_236)]
set_option maxRecDepth 1000000 in
theorem ck_l_thing_b2 : e2_cal S_l_thing_b2 I_l_thing_b2 4000 3 236 as_l_thing_b2 E_lb h_lb2 (e2_fin rs_l_thing_b2) = true := by decide +kernel
theorem lp_thing_b2 (hen : en_ok) (l : Launch) : ∀ d, 260 ≤ d → ∀ M, e2_MT[236]? = some M → e2_Met l M d as_l_thing_b2 E_lb h_lb2 (e2_fin rs_l_thing_b2) := fun d hd M hM => e2_cal_ok (S := S_l_thing_b2) (I := I_l_thing_b2) (H := 250) (fuel := 4000) hen e2_fz (e2_fa ein_212 (e2_fa ein_220 (e2_fa ein_236 e2_fz))) 3 d (by omega) 236 M hM _ _ _ _ ck_l_thing_b2
def as_l_glyph_b2 : List ev_V := [(2, 83, 0), (11, 0, 4294967295), (11, 0, 4294967295)]
noncomputable def rs_l_glyph_b2 : e2_Rs := [((11, 0, 4294967295), h_lb2)]
noncomputable def S_l_glyph_b2 : List e2_Sm := [s_b139]
noncomputable def I_l_glyph_b2 : List e2_In := []
set_option maxRecDepth 1000000 in
theorem ck_l_glyph_b2 : e2_cal S_l_glyph_b2 I_l_glyph_b2 4000 0 237 as_l_glyph_b2 E_lb h_lb2 (e2_fin rs_l_glyph_b2) = true := by decide +kernel
theorem lp_glyph_b2 (hen : en_ok) (l : Launch) : ∀ d, 260 ≤ d → ∀ M, e2_MT[237]? = some M → e2_Met l M d as_l_glyph_b2 E_lb h_lb2 (e2_fin rs_l_glyph_b2) := fun d hd M hM => e2_cal_ok (S := S_l_glyph_b2) (I := I_l_glyph_b2) (H := 250) (fuel := 4000) hen (e2_fa ((cs_b139 hen l).mono (by decide)) e2_fz) e2_fz 0 d (by omega) 237 M hM _ _ _ _ ck_l_glyph_b2
def as_l_plot_b2 : List ev_V := [(2, 83, 0), (11, 0, 4294967295), (11, 0, 4294967295)]
noncomputable def rs_l_plot_b2 : e2_Rs := [((11, 0, 4294967295), h_lb2)]
noncomputable def S_l_plot_b2 : List e2_Sm := [s_b148]
noncomputable def I_l_plot_b2 : List e2_In := []
set_option maxRecDepth 1000000 in
theorem ck_l_plot_b2 : e2_cal S_l_plot_b2 I_l_plot_b2 4000 0 240 as_l_plot_b2 E_lb h_lb2 (e2_fin rs_l_plot_b2) = true := by decide +kernel
theorem lp_plot_b2 (hen : en_ok) (l : Launch) : ∀ d, 260 ≤ d → ∀ M, e2_MT[240]? = some M → e2_Met l M d as_l_plot_b2 E_lb h_lb2 (e2_fin rs_l_plot_b2) := fun d hd M hM => e2_cal_ok (S := S_l_plot_b2) (I := I_l_plot_b2) (H := 250) (fuel := 4000) hen (e2_fa ((cs_b148 hen l).mono (by decide)) e2_fz) e2_fz 0 d (by omega) 240 M hM _ _ _ _ ck_l_plot_b2
def as_l_mow_b2 : List ev_V := [(2, 83, 0), (11, 0, 4294967295)]
noncomputable def rs_l_mow_b2 : e2_Rs := [((11, 0, 4294967295), h_lb2), ((11, 0, 4294967295), h_lb2k)]
noncomputable def S_l_mow_b2 : List e2_Sm := [s_b150]
noncomputable def I_l_mow_b2 : List e2_In := []
set_option maxRecDepth 1000000 in
theorem ck_l_mow_b2 : e2_cal S_l_mow_b2 I_l_mow_b2 4000 0 243 as_l_mow_b2 E_lb h_lb2 (e2_fin rs_l_mow_b2) = true := by decide +kernel
theorem lp_mow_b2 (hen : en_ok) (l : Launch) : ∀ d, 260 ≤ d → ∀ M, e2_MT[243]? = some M → e2_Met l M d as_l_mow_b2 E_lb h_lb2 (e2_fin rs_l_mow_b2) := fun d hd M hM => e2_cal_ok (S := S_l_mow_b2) (I := I_l_mow_b2) (H := 250) (fuel := 4000) hen (e2_fa ((cs_b150 hen l (hands_b hen l)).mono (by decide)) e2_fz) e2_fz 0 d (by omega) 243 M hM _ _ _ _ ck_l_mow_b2
def as_l_sow_b2 : List ev_V := [(2, 83, 0), (11, 0, 4294967295)]
noncomputable def rs_l_sow_b2 : e2_Rs := [((11, 0, 4294967295), h_lb2), ((11, 0, 4294967295), h_lb2k)]
noncomputable def S_l_sow_b2 : List e2_Sm := [s_b151]
noncomputable def I_l_sow_b2 : List e2_In := []
set_option maxRecDepth 1000000 in
theorem ck_l_sow_b2 : e2_cal S_l_sow_b2 I_l_sow_b2 4000 0 244 as_l_sow_b2 E_lb h_lb2 (e2_fin rs_l_sow_b2) = true := by decide +kernel
theorem lp_sow_b2 (hen : en_ok) (l : Launch) : ∀ d, 260 ≤ d → ∀ M, e2_MT[244]? = some M → e2_Met l M d as_l_sow_b2 E_lb h_lb2 (e2_fin rs_l_sow_b2) := fun d hd M hM => e2_cal_ok (S := S_l_sow_b2) (I := I_l_sow_b2) (H := 250) (fuel := 4000) hen (e2_fa ((cs_b151 hen l (hands_b hen l)).mono (by decide)) e2_fz) e2_fz 0 d (by omega) 244 M hM _ _ _ _ ck_l_sow_b2
def as_l_year_b2 : List ev_V := [(2, 83, 0)]
noncomputable def rs_l_year_b2 : e2_Rs := [((11, 0, 4294967295), h_lb2), ((11, 0, 4294967295), h_lb2k)]
noncomputable def S_l_year_b2 : List e2_Sm := [s_b162]
noncomputable def I_l_year_b2 : List e2_In := []
set_option maxRecDepth 1000000 in
theorem ck_l_year_b2 : e2_cal S_l_year_b2 I_l_year_b2 4000 0 246 as_l_year_b2 E_lb h_lb2 (e2_fin rs_l_year_b2) = true := by decide +kernel
theorem lp_year_b2 (hen : en_ok) (l : Launch) : ∀ d, 260 ≤ d → ∀ M, e2_MT[246]? = some M → e2_Met l M d as_l_year_b2 E_lb h_lb2 (e2_fin rs_l_year_b2) := fun d hd M hM => e2_cal_ok (S := S_l_year_b2) (I := I_l_year_b2) (H := 250) (fuel := 4000) hen (e2_fa ((cs_b162 hen l (hands_b hen l)).mono (by decide)) e2_fz) e2_fz 0 d (by omega) 246 M hM _ _ _ _ ck_l_year_b2
def as_l_readings_b2 : List ev_V := [(2, 83, 0)]
noncomputable def rs_l_readings_b2 : e2_Rs := [((11, 0, 4294967295), h_lb2)]
noncomputable def S_l_readings_b2 : List e2_Sm := [s_b166]
noncomputable def I_l_readings_b2 : List e2_In := []
set_option maxRecDepth 1000000 in
theorem ck_l_readings_b2 : e2_cal S_l_readings_b2 I_l_readings_b2 4000 0 249 as_l_readings_b2 E_lb h_lb2 (e2_fin rs_l_readings_b2) = true := by decide +kernel
theorem lp_readings_b2 (hen : en_ok) (l : Launch) : ∀ d, 260 ≤ d → ∀ M, e2_MT[249]? = some M → e2_Met l M d as_l_readings_b2 E_lb h_lb2 (e2_fin rs_l_readings_b2) := fun d hd M hM => e2_cal_ok (S := S_l_readings_b2) (I := I_l_readings_b2) (H := 250) (fuel := 4000) hen (e2_fa ((cs_b166 hen l).mono (by decide)) e2_fz) e2_fz 0 d (by omega) 249 M hM _ _ _ _ ck_l_readings_b2
def as_l_taken_b2 : List ev_V := [(2, 83, 0)]
noncomputable def rs_l_taken_b2 : e2_Rs := [((11, 0, 4294967295), h_lb2)]
noncomputable def S_l_taken_b2 : List e2_Sm := [s_b170]
noncomputable def I_l_taken_b2 : List e2_In := []
set_option maxRecDepth 1000000 in
theorem ck_l_taken_b2 : e2_cal S_l_taken_b2 I_l_taken_b2 4000 0 251 as_l_taken_b2 E_lb h_lb2 (e2_fin rs_l_taken_b2) = true := by decide +kernel
theorem lp_taken_b2 (hen : en_ok) (l : Launch) : ∀ d, 260 ≤ d → ∀ M, e2_MT[251]? = some M → e2_Met l M d as_l_taken_b2 E_lb h_lb2 (e2_fin rs_l_taken_b2) := fun d hd M hM => e2_cal_ok (S := S_l_taken_b2) (I := I_l_taken_b2) (H := 250) (fuel := 4000) hen (e2_fa ((cs_b170 hen l).mono (by decide)) e2_fz) e2_fz 0 d (by omega) 251 M hM _ _ _ _ ck_l_taken_b2
def as_l_weight_b2 : List ev_V := [(2, 83, 0)]
noncomputable def rs_l_weight_b2 : e2_Rs := [((11, 0, 4294967295), h_lb2)]
noncomputable def S_l_weight_b2 : List e2_Sm := [s_b174]
noncomputable def I_l_weight_b2 : List e2_In := []
set_option maxRecDepth 1000000 in
theorem ck_l_weight_b2 : e2_cal S_l_weight_b2 I_l_weight_b2 4000 0 252 as_l_weight_b2 E_lb h_lb2 (e2_fin rs_l_weight_b2) = true := by decide +kernel
theorem lp_weight_b2 (hen : en_ok) (l : Launch) : ∀ d, 260 ≤ d → ∀ M, e2_MT[252]? = some M → e2_Met l M d as_l_weight_b2 E_lb h_lb2 (e2_fin rs_l_weight_b2) := fun d hd M hM => e2_cal_ok (S := S_l_weight_b2) (I := I_l_weight_b2) (H := 250) (fuel := 4000) hen (e2_fa ((cs_b174 hen l).mono (by decide)) e2_fz) e2_fz 0 d (by omega) 252 M hM _ _ _ _ ck_l_weight_b2
def as_l_does_b2 : List ev_V := [(2, 83, 0), (11, 0, 4294967295)]
noncomputable def rs_l_does_b2 : e2_Rs := [((11, 0, 4294967295), h_lb2)]
noncomputable def S_l_does_b2 : List e2_Sm := [s_b178]
noncomputable def I_l_does_b2 : List e2_In := []
set_option maxRecDepth 1000000 in
theorem ck_l_does_b2 : e2_cal S_l_does_b2 I_l_does_b2 4000 0 253 as_l_does_b2 E_lb h_lb2 (e2_fin rs_l_does_b2) = true := by decide +kernel
theorem lp_does_b2 (hen : en_ok) (l : Launch) : ∀ d, 260 ≤ d → ∀ M, e2_MT[253]? = some M → e2_Met l M d as_l_does_b2 E_lb h_lb2 (e2_fin rs_l_does_b2) := fun d hd M hM => e2_cal_ok (S := S_l_does_b2) (I := I_l_does_b2) (H := 250) (fuel := 4000) hen (e2_fa ((cs_b178 hen l).mono (by decide)) e2_fz) e2_fz 0 d (by omega) 253 M hM _ _ _ _ ck_l_does_b2
def as_l_will_b2 : List ev_V := [(2, 83, 0), (11, 0, 4294967295), (11, 0, 4294967295)]
noncomputable def rs_l_will_b2 : e2_Rs := [((11, 0, 4294967295), h_lb2)]
noncomputable def S_l_will_b2 : List e2_Sm := [s_b187]
noncomputable def I_l_will_b2 : List e2_In := []
set_option maxRecDepth 1000000 in
theorem ck_l_will_b2 : e2_cal S_l_will_b2 I_l_will_b2 4000 0 256 as_l_will_b2 E_lb h_lb2 (e2_fin rs_l_will_b2) = true := by decide +kernel
theorem lp_will_b2 (hen : en_ok) (l : Launch) : ∀ d, 260 ≤ d → ∀ M, e2_MT[256]? = some M → e2_Met l M d as_l_will_b2 E_lb h_lb2 (e2_fin rs_l_will_b2) := fun d hd M hM => e2_cal_ok (S := S_l_will_b2) (I := I_l_will_b2) (H := 250) (fuel := 4000) hen (e2_fa ((cs_b187 hen l (hands_b hen l)).mono (by decide)) e2_fz) e2_fz 0 d (by omega) 256 M hM _ _ _ _ ck_l_will_b2
def as_l_field_b2 : List ev_V := [(2, 83, 0), (11, 0, 4294967295)]
noncomputable def rs_l_field_b2 : e2_Rs := [((11, 0, 4294967295), h_lb2)]
noncomputable def S_l_field_b2 : List e2_Sm := [s_b191]
noncomputable def I_l_field_b2 : List e2_In := []
set_option maxRecDepth 1000000 in
theorem ck_l_field_b2 : e2_cal S_l_field_b2 I_l_field_b2 4000 0 257 as_l_field_b2 E_lb h_lb2 (e2_fin rs_l_field_b2) = true := by decide +kernel
theorem lp_field_b2 (hen : en_ok) (l : Launch) : ∀ d, 260 ≤ d → ∀ M, e2_MT[257]? = some M → e2_Met l M d as_l_field_b2 E_lb h_lb2 (e2_fin rs_l_field_b2) := fun d hd M hM => e2_cal_ok (S := S_l_field_b2) (I := I_l_field_b2) (H := 250) (fuel := 4000) hen (e2_fa ((cs_b191 hen l (hands_b hen l)).mono (by decide)) e2_fz) e2_fz 0 d (by omega) 257 M hM _ _ _ _ ck_l_field_b2
def as_l_harm_b2 : List ev_V := [(2, 83, 0)]
noncomputable def rs_l_harm_b2 : e2_Rs := [((11, 0, 4294967295), h_lb2)]
noncomputable def S_l_harm_b2 : List e2_Sm := [s_b195]
noncomputable def I_l_harm_b2 : List e2_In := []
set_option maxRecDepth 1000000 in
theorem ck_l_harm_b2 : e2_cal S_l_harm_b2 I_l_harm_b2 4000 0 258 as_l_harm_b2 E_lb h_lb2 (e2_fin rs_l_harm_b2) = true := by decide +kernel
theorem lp_harm_b2 (hen : en_ok) (l : Launch) : ∀ d, 260 ≤ d → ∀ M, e2_MT[258]? = some M → e2_Met l M d as_l_harm_b2 E_lb h_lb2 (e2_fin rs_l_harm_b2) := fun d hd M hM => e2_cal_ok (S := S_l_harm_b2) (I := I_l_harm_b2) (H := 250) (fuel := 4000) hen (e2_fa ((cs_b195 hen l).mono (by decide)) e2_fz) e2_fz 0 d (by omega) 258 M hM _ _ _ _ ck_l_harm_b2
def as_l_turn_b2 : List ev_V := [(2, 83, 0), (11, 0, 4294967295), (11, 0, 4294967295)]
noncomputable def rs_l_turn_b2 : e2_Rs := [((11, 0, 4294967295), h_lb2)]
noncomputable def S_l_turn_b2 : List e2_Sm := [s_b201]
noncomputable def I_l_turn_b2 : List e2_In := []
set_option maxRecDepth 1000000 in
theorem ck_l_turn_b2 : e2_cal S_l_turn_b2 I_l_turn_b2 4000 0 261 as_l_turn_b2 E_lb h_lb2 (e2_fin rs_l_turn_b2) = true := by decide +kernel
theorem lp_turn_b2 (hen : en_ok) (l : Launch) : ∀ d, 260 ≤ d → ∀ M, e2_MT[261]? = some M → e2_Met l M d as_l_turn_b2 E_lb h_lb2 (e2_fin rs_l_turn_b2) := fun d hd M hM => e2_cal_ok (S := S_l_turn_b2) (I := I_l_turn_b2) (H := 250) (fuel := 4000) hen (e2_fa ((cs_b201 hen l).mono (by decide)) e2_fz) e2_fz 0 d (by omega) 261 M hM _ _ _ _ ck_l_turn_b2
def as_l_plain_b2 : List ev_V := [(2, 83, 0)]
noncomputable def rs_l_plain_b2 : e2_Rs := [((11, 0, 4294967295), h_lb2)]
noncomputable def S_l_plain_b2 : List e2_Sm := [s_b205]
noncomputable def I_l_plain_b2 : List e2_In := []
set_option maxRecDepth 1000000 in
theorem ck_l_plain_b2 : e2_cal S_l_plain_b2 I_l_plain_b2 4000 0 262 as_l_plain_b2 E_lb h_lb2 (e2_fin rs_l_plain_b2) = true := by decide +kernel
theorem lp_plain_b2 (hen : en_ok) (l : Launch) : ∀ d, 260 ≤ d → ∀ M, e2_MT[262]? = some M → e2_Met l M d as_l_plain_b2 E_lb h_lb2 (e2_fin rs_l_plain_b2) := fun d hd M hM => e2_cal_ok (S := S_l_plain_b2) (I := I_l_plain_b2) (H := 250) (fuel := 4000) hen (e2_fa ((cs_b205 hen l).mono (by decide)) e2_fz) e2_fz 0 d (by omega) 262 M hM _ _ _ _ ck_l_plain_b2
def as_l_write_b2 : List ev_V := [(2, 83, 0), (11, 0, 4294967295), (11, 0, 4294967295), (11, 0, 4294967295)]
noncomputable def rs_l_write_b2 : e2_Rs := [((11, 0, 4294967295), h_lb2)]
noncomputable def S_l_write_b2 : List e2_Sm := [s_b215]
noncomputable def I_l_write_b2 : List e2_In := []
set_option maxRecDepth 1000000 in
theorem ck_l_write_b2 : e2_cal S_l_write_b2 I_l_write_b2 4000 0 269 as_l_write_b2 E_lb h_lb2 (e2_fin rs_l_write_b2) = true := by decide +kernel
theorem lp_write_b2 (hen : en_ok) (l : Launch) : ∀ d, 260 ≤ d → ∀ M, e2_MT[269]? = some M → e2_Met l M d as_l_write_b2 E_lb h_lb2 (e2_fin rs_l_write_b2) := fun d hd M hM => e2_cal_ok (S := S_l_write_b2) (I := I_l_write_b2) (H := 250) (fuel := 4000) hen (e2_fa ((cs_b215 hen l (hands_b hen l)).mono (by decide)) e2_fz) e2_fz 0 d (by omega) 269 M hM _ _ _ _ ck_l_write_b2
def as_l_watch_b2 : List ev_V := [(2, 83, 0)]
noncomputable def rs_l_watch_b2 : e2_Rs := [((11, 0, 4294967295), h_lb2)]
noncomputable def S_l_watch_b2 : List e2_Sm := [s_b219]
noncomputable def I_l_watch_b2 : List e2_In := []
set_option maxRecDepth 1000000 in
theorem ck_l_watch_b2 : e2_cal S_l_watch_b2 I_l_watch_b2 4000 0 270 as_l_watch_b2 E_lb h_lb2 (e2_fin rs_l_watch_b2) = true := by decide +kernel
theorem lp_watch_b2 (hen : en_ok) (l : Launch) : ∀ d, 260 ≤ d → ∀ M, e2_MT[270]? = some M → e2_Met l M d as_l_watch_b2 E_lb h_lb2 (e2_fin rs_l_watch_b2) := fun d hd M hM => e2_cal_ok (S := S_l_watch_b2) (I := I_l_watch_b2) (H := 250) (fuel := 4000) hen (e2_fa ((cs_b219 hen l).mono (by decide)) e2_fz) e2_fz 0 d (by omega) 270 M hM _ _ _ _ ck_l_watch_b2
def as_l_cows_b2 : List ev_V := [(2, 83, 0), (11, 0, 4294967295), (11, 0, 4294967295)]
noncomputable def rs_l_cows_b2 : e2_Rs := [((11, 0, 4294967295), h_lb2)]
noncomputable def S_l_cows_b2 : List e2_Sm := [s_b223]
noncomputable def I_l_cows_b2 : List e2_In := []
set_option maxRecDepth 1000000 in
theorem ck_l_cows_b2 : e2_cal S_l_cows_b2 I_l_cows_b2 4000 0 271 as_l_cows_b2 E_lb h_lb2 (e2_fin rs_l_cows_b2) = true := by decide +kernel
theorem lp_cows_b2 (hen : en_ok) (l : Launch) : ∀ d, 260 ≤ d → ∀ M, e2_MT[271]? = some M → e2_Met l M d as_l_cows_b2 E_lb h_lb2 (e2_fin rs_l_cows_b2) := fun d hd M hM => e2_cal_ok (S := S_l_cows_b2) (I := I_l_cows_b2) (H := 250) (fuel := 4000) hen (e2_fa ((cs_b223 hen l (hands_b hen l)).mono (by decide)) e2_fz) e2_fz 0 d (by omega) 271 M hM _ _ _ _ ck_l_cows_b2
def as_l_duel_b2 : List ev_V := [(2, 83, 0), (11, 0, 4294967295), (11, 0, 4294967295), (11, 0, 4294967295), (11, 0, 4294967295)]
noncomputable def rs_l_duel_b2 : e2_Rs := [((11, 0, 4294967295), h_lb2)]
noncomputable def S_l_duel_b2 : List e2_Sm := [s_b229]
noncomputable def I_l_duel_b2 : List e2_In := []
set_option maxRecDepth 1000000 in
theorem ck_l_duel_b2 : e2_cal S_l_duel_b2 I_l_duel_b2 4000 0 274 as_l_duel_b2 E_lb h_lb2 (e2_fin rs_l_duel_b2) = true := by decide +kernel
theorem lp_duel_b2 (hen : en_ok) (l : Launch) : ∀ d, 260 ≤ d → ∀ M, e2_MT[274]? = some M → e2_Met l M d as_l_duel_b2 E_lb h_lb2 (e2_fin rs_l_duel_b2) := fun d hd M hM => e2_cal_ok (S := S_l_duel_b2) (I := I_l_duel_b2) (H := 250) (fuel := 4000) hen (e2_fa ((cs_b229 hen l).mono (by decide)) e2_fz) e2_fz 0 d (by omega) 274 M hM _ _ _ _ ck_l_duel_b2
def as_l_lies_b2 : List ev_V := [(2, 83, 0), (11, 0, 4294967295)]
noncomputable def rs_l_lies_b2 : e2_Rs := [((11, 0, 4294967295), h_lb2)]
noncomputable def S_l_lies_b2 : List e2_Sm := []
noncomputable def I_l_lies_b2 : List e2_In := [(212, 3, e2x_212), (250, 2, e2x_250)]
set_option maxRecDepth 1000000 in
theorem ck_l_lies_b2 : e2_cal S_l_lies_b2 I_l_lies_b2 4000 2 250 as_l_lies_b2 E_lb h_lb2 (e2_fin rs_l_lies_b2) = true := by decide +kernel
theorem lp_lies_b2 (hen : en_ok) (l : Launch) : ∀ d, 260 ≤ d → ∀ M, e2_MT[250]? = some M → e2_Met l M d as_l_lies_b2 E_lb h_lb2 (e2_fin rs_l_lies_b2) := fun d hd M hM => e2_cal_ok (S := S_l_lies_b2) (I := I_l_lies_b2) (H := 250) (fuel := 4000) hen e2_fz (e2_fa ein_212 (e2_fa ein_250 e2_fz)) 2 d (by omega) 250 M hM _ _ _ _ ck_l_lies_b2
def as_l_heard_b2 : List ev_V := [(2, 83, 0), (11, 0, 4294967295), (11, 0, 4294967295), (11, 0, 4294967295), (11, 2147483648, 2147483649)]
noncomputable def rs_l_heard_b2 : e2_Rs := [((11, 0, 4294967295), h_lb2)]
noncomputable def S_l_heard_b2 : List e2_Sm := [s_b231]
noncomputable def I_l_heard_b2 : List e2_In := []
set_option maxRecDepth 1000000 in
theorem ck_l_heard_b2 : e2_cal S_l_heard_b2 I_l_heard_b2 4000 0 278 as_l_heard_b2 E_lb h_lb2 (e2_fin rs_l_heard_b2) = true := by decide +kernel
theorem lp_heard_b2 (hen : en_ok) (l : Launch) : ∀ d, 260 ≤ d → ∀ M, e2_MT[278]? = some M → e2_Met l M d as_l_heard_b2 E_lb h_lb2 (e2_fin rs_l_heard_b2) := fun d hd M hM => e2_cal_ok (S := S_l_heard_b2) (I := I_l_heard_b2) (H := 250) (fuel := 4000) hen (e2_fa ((cs_b231 hen l).mono (by decide)) e2_fz) e2_fz 0 d (by omega) 278 M hM _ _ _ _ ck_l_heard_b2
def as_l_untell_b2 : List ev_V := [(2, 83, 0), (11, 0, 4294967295)]
noncomputable def rs_l_untell_b2 : e2_Rs := [((11, 0, 4294967295), h_lb2)]
noncomputable def S_l_untell_b2 : List e2_Sm := []
noncomputable def I_l_untell_b2 : List e2_In := [(212, 3, e2x_212), (279, 2, e2x_279)]
set_option maxRecDepth 1000000 in
theorem ck_l_untell_b2 : e2_cal S_l_untell_b2 I_l_untell_b2 4000 2 279 as_l_untell_b2 E_lb h_lb2 (e2_fin rs_l_untell_b2) = true := by decide +kernel
theorem lp_untell_b2 (hen : en_ok) (l : Launch) : ∀ d, 260 ≤ d → ∀ M, e2_MT[279]? = some M → e2_Met l M d as_l_untell_b2 E_lb h_lb2 (e2_fin rs_l_untell_b2) := fun d hd M hM => e2_cal_ok (S := S_l_untell_b2) (I := I_l_untell_b2) (H := 250) (fuel := 4000) hen e2_fz (e2_fa ein_212 (e2_fa ein_279 e2_fz)) 2 d (by omega) 279 M hM _ _ _ _ ck_l_untell_b2
def as_l_fit_b2 : List ev_V := [(2, 83, 0), (11, 0, 4294967295)]
noncomputable def rs_l_fit_b2 : e2_Rs := [((11, 0, 4294967295), h_lb2)]
noncomputable def S_l_fit_b2 : List e2_Sm := [s_b234]
noncomputable def I_l_fit_b2 : List e2_In := []
set_option maxRecDepth 1000000 in
theorem ck_l_fit_b2 : e2_cal S_l_fit_b2 I_l_fit_b2 4000 0 283 as_l_fit_b2 E_lb h_lb2 (e2_fin rs_l_fit_b2) = true := by decide +kernel
theorem lp_fit_b2 (hen : en_ok) (l : Launch) : ∀ d, 260 ≤ d → ∀ M, e2_MT[283]? = some M → e2_Met l M d as_l_fit_b2 E_lb h_lb2 (e2_fin rs_l_fit_b2) := fun d hd M hM => e2_cal_ok (S := S_l_fit_b2) (I := I_l_fit_b2) (H := 250) (fuel := 4000) hen (e2_fa ((cs_b234 hen l).mono (by decide)) e2_fz) e2_fz 0 d (by omega) 283 M hM _ _ _ _ ck_l_fit_b2
def as_l_sure_b2 : List ev_V := [(2, 83, 0), (11, 0, 4294967295), (11, 0, 4294967295), (11, 0, 4294967295)]
noncomputable def rs_l_sure_b2 : e2_Rs := [((11, 0, 4294967295), h_lb2)]
noncomputable def S_l_sure_b2 : List e2_Sm := [s_b235]
noncomputable def I_l_sure_b2 : List e2_In := []
set_option maxRecDepth 1000000 in
theorem ck_l_sure_b2 : e2_cal S_l_sure_b2 I_l_sure_b2 4000 0 284 as_l_sure_b2 E_lb h_lb2 (e2_fin rs_l_sure_b2) = true := by decide +kernel
theorem lp_sure_b2 (hen : en_ok) (l : Launch) : ∀ d, 260 ≤ d → ∀ M, e2_MT[284]? = some M → e2_Met l M d as_l_sure_b2 E_lb h_lb2 (e2_fin rs_l_sure_b2) := fun d hd M hM => e2_cal_ok (S := S_l_sure_b2) (I := I_l_sure_b2) (H := 250) (fuel := 4000) hen (e2_fa ((cs_b235 hen l).mono (by decide)) e2_fz) e2_fz 0 d (by omega) 284 M hM _ _ _ _ ck_l_sure_b2
def as_l_ask_b2 : List ev_V := [(2, 83, 0), (11, 0, 4294967295), (11, 0, 4294967295)]
noncomputable def rs_l_ask_b2 : e2_Rs := [((11, 0, 4294967295), h_lb2)]
noncomputable def S_l_ask_b2 : List e2_Sm := [s_b236]
noncomputable def I_l_ask_b2 : List e2_In := []
set_option maxRecDepth 1000000 in
theorem ck_l_ask_b2 : e2_cal S_l_ask_b2 I_l_ask_b2 4000 0 285 as_l_ask_b2 E_lb h_lb2 (e2_fin rs_l_ask_b2) = true := by decide +kernel
theorem lp_ask_b2 (hen : en_ok) (l : Launch) : ∀ d, 260 ≤ d → ∀ M, e2_MT[285]? = some M → e2_Met l M d as_l_ask_b2 E_lb h_lb2 (e2_fin rs_l_ask_b2) := fun d hd M hM => e2_cal_ok (S := S_l_ask_b2) (I := I_l_ask_b2) (H := 250) (fuel := 4000) hen (e2_fa ((cs_b236 hen l).mono (by decide)) e2_fz) e2_fz 0 d (by omega) 285 M hM _ _ _ _ ck_l_ask_b2
def as_l_image_b2 : List ev_V := [(2, 83, 0), (11, 0, 4294967295)]
noncomputable def rs_l_image_b2 : e2_Rs := [((11, 0, 4294967295), h_lb2)]
noncomputable def S_l_image_b2 : List e2_Sm := [s_b237]
noncomputable def I_l_image_b2 : List e2_In := []
set_option maxRecDepth 1000000 in
theorem ck_l_image_b2 : e2_cal S_l_image_b2 I_l_image_b2 4000 0 286 as_l_image_b2 E_lb h_lb2 (e2_fin rs_l_image_b2) = true := by decide +kernel
theorem lp_image_b2 (hen : en_ok) (l : Launch) : ∀ d, 260 ≤ d → ∀ M, e2_MT[286]? = some M → e2_Met l M d as_l_image_b2 E_lb h_lb2 (e2_fin rs_l_image_b2) := fun d hd M hM => e2_cal_ok (S := S_l_image_b2) (I := I_l_image_b2) (H := 250) (fuel := 4000) hen (e2_fa ((cs_b237 hen l).mono (by decide)) e2_fz) e2_fz 0 d (by omega) 286 M hM _ _ _ _ ck_l_image_b2
def as_l_back_b2 : List ev_V := [(2, 83, 0), (11, 0, 4294967295)]
noncomputable def rs_l_back_b2 : e2_Rs := [((11, 0, 4294967295), h_lb2), ((11, 0, 4294967295), h_lb2k)]
noncomputable def S_l_back_b2 : List e2_Sm := [s_b238]
noncomputable def I_l_back_b2 : List e2_In := []
set_option maxRecDepth 1000000 in
theorem ck_l_back_b2 : e2_cal S_l_back_b2 I_l_back_b2 4000 0 287 as_l_back_b2 E_lb h_lb2 (e2_fin rs_l_back_b2) = true := by decide +kernel
theorem lp_back_b2 (hen : en_ok) (l : Launch) : ∀ d, 260 ≤ d → ∀ M, e2_MT[287]? = some M → e2_Met l M d as_l_back_b2 E_lb h_lb2 (e2_fin rs_l_back_b2) := fun d hd M hM => e2_cal_ok (S := S_l_back_b2) (I := I_l_back_b2) (H := 250) (fuel := 4000) hen (e2_fa ((cs_b238 hen l).mono (by decide)) e2_fz) e2_fz 0 d (by omega) 287 M hM _ _ _ _ ck_l_back_b2
def as_l_about_b2 : List ev_V := [(2, 83, 0), (11, 0, 4294967295)]
noncomputable def rs_l_about_b2 : e2_Rs := [((11, 0, 4294967295), h_lb2)]
noncomputable def S_l_about_b2 : List e2_Sm := [s_b239]
noncomputable def I_l_about_b2 : List e2_In := []
set_option maxRecDepth 1000000 in
theorem ck_l_about_b2 : e2_cal S_l_about_b2 I_l_about_b2 4000 0 288 as_l_about_b2 E_lb h_lb2 (e2_fin rs_l_about_b2) = true := by decide +kernel
theorem lp_about_b2 (hen : en_ok) (l : Launch) : ∀ d, 260 ≤ d → ∀ M, e2_MT[288]? = some M → e2_Met l M d as_l_about_b2 E_lb h_lb2 (e2_fin rs_l_about_b2) := fun d hd M hM => e2_cal_ok (S := S_l_about_b2) (I := I_l_about_b2) (H := 250) (fuel := 4000) hen (e2_fa ((cs_b239 hen l).mono (by decide)) e2_fz) e2_fz 0 d (by omega) 288 M hM _ _ _ _ ck_l_about_b2
def lbc130 : ev_C := (52, [(0, 1, 0), (0, 1, 0), (11, 2147483648, 2147483649), (11, 2147483648, 2147483649)])
def lbn328 : e2_Q1 := (lbc130, lbc3)
def lbn329 : e2_Q2 := (lbn18, lbn328)
def lbn330 : e2_Q3 := (lbn17, lbn329)
def lbn331 : e2_Q4 := (lbn330, lbn27)
def lbn332 : e2_Q5 := (lbn14, lbn331)
def lbn333 : e2_Q6 := (lbn332, lbn59)
def lbn334 : e2_Q7 := (lbn333, lbn122)
def lbc131 : ev_C := (63, [])
def lbn335 : e2_Q1 := (lbc131, lbc3)
def lbn336 : e2_Q2 := (lbn201, lbn335)
def lbn337 : e2_Q3 := (lbn200, lbn336)
def lbn338 : e2_Q4 := (lbn337, lbn210)
def lbn339 : e2_Q5 := (lbn197, lbn338)
def lbn340 : e2_Q6 := (lbn339, lbn241)
def lbn341 : e2_Q7 := (lbn184, lbn340)
def lbn342 : e2_Q8 := (lbn334, lbn341)
noncomputable def h_lb3 : ev_H := (lbn342 : e2_Q8)
def lbn343 : e2_Q4 := (lbn330, lbn247)
def lbn344 : e2_Q5 := (lbn14, lbn343)
def lbn345 : e2_Q6 := (lbn344, lbn59)
def lbn346 : e2_Q7 := (lbn345, lbn122)
def lbn347 : e2_Q5 := (lbn261, lbn338)
def lbn348 : e2_Q6 := (lbn347, lbn241)
def lbn349 : e2_Q7 := (lbn257, lbn348)
def lbn350 : e2_Q8 := (lbn346, lbn349)
noncomputable def h_wb3 : ev_H := (lbn350 : e2_Q8)
def lbn351 : e2_Q5 := (lbn269, lbn338)
def lbn352 : e2_Q6 := (lbn351, lbn241)
def lbn353 : e2_Q7 := (lbn184, lbn352)
def lbn354 : e2_Q8 := (lbn334, lbn353)
noncomputable def h_lb3k : ev_H := (lbn354 : e2_Q8)
def as_l_feed_b3 : List ev_V := [(2, 83, 0), (11, 0, 4294967295), (11, 0, 4294967295), (11, 0, 4294967295), (11, 0, 4294967295), (11, 0, 4294967295)]
noncomputable def rs_l_feed_b3 : e2_Rs := [((11, 0, 4294967295), h_lb3)]
noncomputable def S_l_feed_b3 : List e2_Sm := [s_b240]
noncomputable def I_l_feed_b3 : List e2_In := []
set_option maxRecDepth 1000000 in
theorem ck_l_feed_b3 : e2_cal S_l_feed_b3 I_l_feed_b3 4000 0 289 as_l_feed_b3 E_lb h_lb3 (e2_fin rs_l_feed_b3) = true := by decide +kernel
theorem lp_feed_b3 (hen : en_ok) (l : Launch) : ∀ d, 260 ≤ d → ∀ M, e2_MT[289]? = some M → e2_Met l M d as_l_feed_b3 E_lb h_lb3 (e2_fin rs_l_feed_b3) := fun d hd M hM => e2_cal_ok (S := S_l_feed_b3) (I := I_l_feed_b3) (H := 250) (fuel := 4000) hen (e2_fa ((cs_b240 hen l).mono (by decide)) e2_fz) e2_fz 0 d (by omega) 289 M hM _ _ _ _ ck_l_feed_b3
def as_l_end_b3 : List ev_V := [(2, 83, 0), (11, 0, 4294967295)]
noncomputable def rs_l_end_b3 : e2_Rs := [((11, 0, 4294967295), h_lb3)]
noncomputable def S_l_end_b3 : List e2_Sm := []
noncomputable def I_l_end_b3 : List e2_In := [(290, 2, e2x_290)]
set_option maxRecDepth 1000000 in
theorem ck_l_end_b3 : e2_cal S_l_end_b3 I_l_end_b3 4000 1 290 as_l_end_b3 E_lb h_lb3 (e2_fin rs_l_end_b3) = true := by decide +kernel
theorem lp_end_b3 (hen : en_ok) (l : Launch) : ∀ d, 260 ≤ d → ∀ M, e2_MT[290]? = some M → e2_Met l M d as_l_end_b3 E_lb h_lb3 (e2_fin rs_l_end_b3) := fun d hd M hM => e2_cal_ok (S := S_l_end_b3) (I := I_l_end_b3) (H := 250) (fuel := 4000) hen e2_fz (e2_fa ein_290 e2_fz) 1 d (by omega) 290 M hM _ _ _ _ ck_l_end_b3
def as_l_fault_b3 : List ev_V := [(2, 83, 0), (11, 0, 4294967295)]
noncomputable def rs_l_fault_b3 : e2_Rs := [((11, 0, 4294967295), h_lb3)]
noncomputable def S_l_fault_b3 : List e2_Sm := []
noncomputable def I_l_fault_b3 : List e2_In := [(211, 2, e2x_211)]
set_option maxRecDepth 1000000 in
theorem ck_l_fault_b3 : e2_cal S_l_fault_b3 I_l_fault_b3 4000 1 211 as_l_fault_b3 E_lb h_lb3 (e2_fin rs_l_fault_b3) = true := by decide +kernel
theorem lp_fault_b3 (hen : en_ok) (l : Launch) : ∀ d, 260 ≤ d → ∀ M, e2_MT[211]? = some M → e2_Met l M d as_l_fault_b3 E_lb h_lb3 (e2_fin rs_l_fault_b3) := fun d hd M hM => e2_cal_ok (S := S_l_fault_b3) (I := I_l_fault_b3) (H := 250) (fuel := 4000) hen e2_fz (e2_fa ein_211 e2_fz) 1 d (by omega) 211 M hM _ _ _ _ ck_l_fault_b3
def as_l_thing_b3 : List ev_V := [(2, 83, 0), (11, 0, 4294967295)]
noncomputable def rs_l_thing_b3 : e2_Rs := [((11, 0, 4294967295), h_lb3)]
noncomputable def S_l_thing_b3 : List e2_Sm := []
noncomputable def I_l_thing_b3 : List e2_In := [(212, 3, e2x_212), (220, 2, e2x_220), (236, 2, e2x_236)]
set_option maxRecDepth 1000000 in
theorem ck_l_thing_b3 : e2_cal S_l_thing_b3 I_l_thing_b3 4000 3 236 as_l_thing_b3 E_lb h_lb3 (e2_fin rs_l_thing_b3) = true := by decide +kernel
theorem lp_thing_b3 (hen : en_ok) (l : Launch) : ∀ d, 260 ≤ d → ∀ M, e2_MT[236]? = some M → e2_Met l M d as_l_thing_b3 E_lb h_lb3 (e2_fin rs_l_thing_b3) := fun d hd M hM => e2_cal_ok (S := S_l_thing_b3) (I := I_l_thing_b3) (H := 250) (fuel := 4000) hen e2_fz (e2_fa ein_212 (e2_fa ein_220 (e2_fa ein_236 e2_fz))) 3 d (by omega) 236 M hM _ _ _ _ ck_l_thing_b3
def as_l_glyph_b3 : List ev_V := [(2, 83, 0), (11, 0, 4294967295), (11, 0, 4294967295)]
noncomputable def rs_l_glyph_b3 : e2_Rs := [((11, 0, 4294967295), h_lb3)]
noncomputable def S_l_glyph_b3 : List e2_Sm := [s_b141]
noncomputable def I_l_glyph_b3 : List e2_In := []
set_option maxRecDepth 1000000 in
theorem ck_l_glyph_b3 : e2_cal S_l_glyph_b3 I_l_glyph_b3 4000 0 237 as_l_glyph_b3 E_lb h_lb3 (e2_fin rs_l_glyph_b3) = true := by decide +kernel
theorem lp_glyph_b3 (hen : en_ok) (l : Launch) : ∀ d, 260 ≤ d → ∀ M, e2_MT[237]? = some M → e2_Met l M d as_l_glyph_b3 E_lb h_lb3 (e2_fin rs_l_glyph_b3) := fun d hd M hM => e2_cal_ok (S := S_l_glyph_b3) (I := I_l_glyph_b3) (H := 250) (fuel := 4000) hen (e2_fa ((cs_b141 hen l (hands_b hen l)).mono (by decide)) e2_fz) e2_fz 0 d (by omega) 237 M hM _ _ _ _ ck_l_glyph_b3
def as_l_plot_b3 : List ev_V := [(2, 83, 0), (11, 0, 4294967295), (11, 0, 4294967295)]
noncomputable def rs_l_plot_b3 : e2_Rs := [((11, 0, 4294967295), h_lb3)]
noncomputable def S_l_plot_b3 : List e2_Sm := [s_b149]
noncomputable def I_l_plot_b3 : List e2_In := []
set_option maxRecDepth 1000000 in
theorem ck_l_plot_b3 : e2_cal S_l_plot_b3 I_l_plot_b3 4000 0 240 as_l_plot_b3 E_lb h_lb3 (e2_fin rs_l_plot_b3) = true := by decide +kernel
theorem lp_plot_b3 (hen : en_ok) (l : Launch) : ∀ d, 260 ≤ d → ∀ M, e2_MT[240]? = some M → e2_Met l M d as_l_plot_b3 E_lb h_lb3 (e2_fin rs_l_plot_b3) := fun d hd M hM => e2_cal_ok (S := S_l_plot_b3) (I := I_l_plot_b3) (H := 250) (fuel := 4000) hen (e2_fa ((cs_b149 hen l (hands_b hen l)).mono (by decide)) e2_fz) e2_fz 0 d (by omega) 240 M hM _ _ _ _ ck_l_plot_b3
def as_l_mow_b3 : List ev_V := [(2, 83, 0), (11, 0, 4294967295)]
noncomputable def rs_l_mow_b3 : e2_Rs := [((11, 0, 4294967295), h_lb3), ((11, 0, 4294967295), h_lb3k)]
noncomputable def S_l_mow_b3 : List e2_Sm := [s_b150]
noncomputable def I_l_mow_b3 : List e2_In := []
set_option maxRecDepth 1000000 in
theorem ck_l_mow_b3 : e2_cal S_l_mow_b3 I_l_mow_b3 4000 0 243 as_l_mow_b3 E_lb h_lb3 (e2_fin rs_l_mow_b3) = true := by decide +kernel
theorem lp_mow_b3 (hen : en_ok) (l : Launch) : ∀ d, 260 ≤ d → ∀ M, e2_MT[243]? = some M → e2_Met l M d as_l_mow_b3 E_lb h_lb3 (e2_fin rs_l_mow_b3) := fun d hd M hM => e2_cal_ok (S := S_l_mow_b3) (I := I_l_mow_b3) (H := 250) (fuel := 4000) hen (e2_fa ((cs_b150 hen l (hands_b hen l)).mono (by decide)) e2_fz) e2_fz 0 d (by omega) 243 M hM _ _ _ _ ck_l_mow_b3
def as_l_sow_b3 : List ev_V := [(2, 83, 0), (11, 0, 4294967295)]
noncomputable def rs_l_sow_b3 : e2_Rs := [((11, 0, 4294967295), h_lb3), ((11, 0, 4294967295), h_lb3k)]
noncomputable def S_l_sow_b3 : List e2_Sm := [s_b151]
noncomputable def I_l_sow_b3 : List e2_In := []
set_option maxRecDepth 1000000 in
theorem ck_l_sow_b3 : e2_cal S_l_sow_b3 I_l_sow_b3 4000 0 244 as_l_sow_b3 E_lb h_lb3 (e2_fin rs_l_sow_b3) = true := by decide +kernel
theorem lp_sow_b3 (hen : en_ok) (l : Launch) : ∀ d, 260 ≤ d → ∀ M, e2_MT[244]? = some M → e2_Met l M d as_l_sow_b3 E_lb h_lb3 (e2_fin rs_l_sow_b3) := fun d hd M hM => e2_cal_ok (S := S_l_sow_b3) (I := I_l_sow_b3) (H := 250) (fuel := 4000) hen (e2_fa ((cs_b151 hen l (hands_b hen l)).mono (by decide)) e2_fz) e2_fz 0 d (by omega) 244 M hM _ _ _ _ ck_l_sow_b3
def as_l_year_b3 : List ev_V := [(2, 83, 0)]
noncomputable def rs_l_year_b3 : e2_Rs := [((11, 0, 4294967295), h_lb3), ((11, 0, 4294967295), h_lb3k)]
noncomputable def S_l_year_b3 : List e2_Sm := [s_b163]
noncomputable def I_l_year_b3 : List e2_In := []
set_option maxRecDepth 1000000 in
theorem ck_l_year_b3 : e2_cal S_l_year_b3 I_l_year_b3 4000 0 246 as_l_year_b3 E_lb h_lb3 (e2_fin rs_l_year_b3) = true := by decide +kernel
theorem lp_year_b3 (hen : en_ok) (l : Launch) : ∀ d, 260 ≤ d → ∀ M, e2_MT[246]? = some M → e2_Met l M d as_l_year_b3 E_lb h_lb3 (e2_fin rs_l_year_b3) := fun d hd M hM => e2_cal_ok (S := S_l_year_b3) (I := I_l_year_b3) (H := 250) (fuel := 4000) hen (e2_fa ((cs_b163 hen l (hands_b hen l)).mono (by decide)) e2_fz) e2_fz 0 d (by omega) 246 M hM _ _ _ _ ck_l_year_b3
def as_l_readings_b3 : List ev_V := [(2, 83, 0)]
noncomputable def rs_l_readings_b3 : e2_Rs := [((11, 0, 4294967295), h_lb3)]
noncomputable def S_l_readings_b3 : List e2_Sm := [s_b167]
noncomputable def I_l_readings_b3 : List e2_In := []
set_option maxRecDepth 1000000 in
theorem ck_l_readings_b3 : e2_cal S_l_readings_b3 I_l_readings_b3 4000 0 249 as_l_readings_b3 E_lb h_lb3 (e2_fin rs_l_readings_b3) = true := by decide +kernel
theorem lp_readings_b3 (hen : en_ok) (l : Launch) : ∀ d, 260 ≤ d → ∀ M, e2_MT[249]? = some M → e2_Met l M d as_l_readings_b3 E_lb h_lb3 (e2_fin rs_l_readings_b3) := fun d hd M hM => e2_cal_ok (S := S_l_readings_b3) (I := I_l_readings_b3) (H := 250) (fuel := 4000) hen (e2_fa ((cs_b167 hen l (hands_b hen l)).mono (by decide)) e2_fz) e2_fz 0 d (by omega) 249 M hM _ _ _ _ ck_l_readings_b3
def as_l_taken_b3 : List ev_V := [(2, 83, 0)]
noncomputable def rs_l_taken_b3 : e2_Rs := [((11, 0, 4294967295), h_lb3)]
noncomputable def S_l_taken_b3 : List e2_Sm := [s_b171]
noncomputable def I_l_taken_b3 : List e2_In := []
set_option maxRecDepth 1000000 in
theorem ck_l_taken_b3 : e2_cal S_l_taken_b3 I_l_taken_b3 4000 0 251 as_l_taken_b3 E_lb h_lb3 (e2_fin rs_l_taken_b3) = true := by decide +kernel
theorem lp_taken_b3 (hen : en_ok) (l : Launch) : ∀ d, 260 ≤ d → ∀ M, e2_MT[251]? = some M → e2_Met l M d as_l_taken_b3 E_lb h_lb3 (e2_fin rs_l_taken_b3) := fun d hd M hM => e2_cal_ok (S := S_l_taken_b3) (I := I_l_taken_b3) (H := 250) (fuel := 4000) hen (e2_fa ((cs_b171 hen l (hands_b hen l)).mono (by decide)) e2_fz) e2_fz 0 d (by omega) 251 M hM _ _ _ _ ck_l_taken_b3
def as_l_weight_b3 : List ev_V := [(2, 83, 0)]
noncomputable def rs_l_weight_b3 : e2_Rs := [((11, 0, 4294967295), h_lb3)]
noncomputable def S_l_weight_b3 : List e2_Sm := [s_b175]
noncomputable def I_l_weight_b3 : List e2_In := []
set_option maxRecDepth 1000000 in
theorem ck_l_weight_b3 : e2_cal S_l_weight_b3 I_l_weight_b3 4000 0 252 as_l_weight_b3 E_lb h_lb3 (e2_fin rs_l_weight_b3) = true := by decide +kernel
theorem lp_weight_b3 (hen : en_ok) (l : Launch) : ∀ d, 260 ≤ d → ∀ M, e2_MT[252]? = some M → e2_Met l M d as_l_weight_b3 E_lb h_lb3 (e2_fin rs_l_weight_b3) := fun d hd M hM => e2_cal_ok (S := S_l_weight_b3) (I := I_l_weight_b3) (H := 250) (fuel := 4000) hen (e2_fa ((cs_b175 hen l (hands_b hen l)).mono (by decide)) e2_fz) e2_fz 0 d (by omega) 252 M hM _ _ _ _ ck_l_weight_b3
def as_l_does_b3 : List ev_V := [(2, 83, 0), (11, 0, 4294967295)]
noncomputable def rs_l_does_b3 : e2_Rs := [((11, 0, 4294967295), h_lb3)]
noncomputable def S_l_does_b3 : List e2_Sm := [s_b179]
noncomputable def I_l_does_b3 : List e2_In := []
set_option maxRecDepth 1000000 in
theorem ck_l_does_b3 : e2_cal S_l_does_b3 I_l_does_b3 4000 0 253 as_l_does_b3 E_lb h_lb3 (e2_fin rs_l_does_b3) = true := by decide +kernel
theorem lp_does_b3 (hen : en_ok) (l : Launch) : ∀ d, 260 ≤ d → ∀ M, e2_MT[253]? = some M → e2_Met l M d as_l_does_b3 E_lb h_lb3 (e2_fin rs_l_does_b3) := fun d hd M hM => e2_cal_ok (S := S_l_does_b3) (I := I_l_does_b3) (H := 250) (fuel := 4000) hen (e2_fa ((cs_b179 hen l (hands_b hen l)).mono (by decide)) e2_fz) e2_fz 0 d (by omega) 253 M hM _ _ _ _ ck_l_does_b3
def as_l_will_b3 : List ev_V := [(2, 83, 0), (11, 0, 4294967295), (11, 0, 4294967295)]
noncomputable def rs_l_will_b3 : e2_Rs := [((11, 0, 4294967295), h_lb3)]
noncomputable def S_l_will_b3 : List e2_Sm := [s_b188]
noncomputable def I_l_will_b3 : List e2_In := []
set_option maxRecDepth 1000000 in
theorem ck_l_will_b3 : e2_cal S_l_will_b3 I_l_will_b3 4000 0 256 as_l_will_b3 E_lb h_lb3 (e2_fin rs_l_will_b3) = true := by decide +kernel
theorem lp_will_b3 (hen : en_ok) (l : Launch) : ∀ d, 260 ≤ d → ∀ M, e2_MT[256]? = some M → e2_Met l M d as_l_will_b3 E_lb h_lb3 (e2_fin rs_l_will_b3) := fun d hd M hM => e2_cal_ok (S := S_l_will_b3) (I := I_l_will_b3) (H := 250) (fuel := 4000) hen (e2_fa ((cs_b188 hen l (hands_b hen l)).mono (by decide)) e2_fz) e2_fz 0 d (by omega) 256 M hM _ _ _ _ ck_l_will_b3
def as_l_field_b3 : List ev_V := [(2, 83, 0), (11, 0, 4294967295)]
noncomputable def rs_l_field_b3 : e2_Rs := [((11, 0, 4294967295), h_lb3)]
noncomputable def S_l_field_b3 : List e2_Sm := [s_b192]
noncomputable def I_l_field_b3 : List e2_In := []
set_option maxRecDepth 1000000 in
theorem ck_l_field_b3 : e2_cal S_l_field_b3 I_l_field_b3 4000 0 257 as_l_field_b3 E_lb h_lb3 (e2_fin rs_l_field_b3) = true := by decide +kernel
theorem lp_field_b3 (hen : en_ok) (l : Launch) : ∀ d, 260 ≤ d → ∀ M, e2_MT[257]? = some M → e2_Met l M d as_l_field_b3 E_lb h_lb3 (e2_fin rs_l_field_b3) := fun d hd M hM => e2_cal_ok (S := S_l_field_b3) (I := I_l_field_b3) (H := 250) (fuel := 4000) hen (e2_fa ((cs_b192 hen l (hands_b hen l)).mono (by decide)) e2_fz) e2_fz 0 d (by omega) 257 M hM _ _ _ _ ck_l_field_b3
def as_l_harm_b3 : List ev_V := [(2, 83, 0)]
noncomputable def rs_l_harm_b3 : e2_Rs := [((11, 0, 4294967295), h_lb3)]
noncomputable def S_l_harm_b3 : List e2_Sm := [s_b196]
noncomputable def I_l_harm_b3 : List e2_In := []
set_option maxRecDepth 1000000 in
theorem ck_l_harm_b3 : e2_cal S_l_harm_b3 I_l_harm_b3 4000 0 258 as_l_harm_b3 E_lb h_lb3 (e2_fin rs_l_harm_b3) = true := by decide +kernel
theorem lp_harm_b3 (hen : en_ok) (l : Launch) : ∀ d, 260 ≤ d → ∀ M, e2_MT[258]? = some M → e2_Met l M d as_l_harm_b3 E_lb h_lb3 (e2_fin rs_l_harm_b3) := fun d hd M hM => e2_cal_ok (S := S_l_harm_b3) (I := I_l_harm_b3) (H := 250) (fuel := 4000) hen (e2_fa ((cs_b196 hen l (hands_b hen l)).mono (by decide)) e2_fz) e2_fz 0 d (by omega) 258 M hM _ _ _ _ ck_l_harm_b3
def as_l_turn_b3 : List ev_V := [(2, 83, 0), (11, 0, 4294967295), (11, 0, 4294967295)]
noncomputable def rs_l_turn_b3 : e2_Rs := [((11, 0, 4294967295), h_lb3)]
noncomputable def S_l_turn_b3 : List e2_Sm := [s_b202]
noncomputable def I_l_turn_b3 : List e2_In := []
set_option maxRecDepth 1000000 in
theorem ck_l_turn_b3 : e2_cal S_l_turn_b3 I_l_turn_b3 4000 0 261 as_l_turn_b3 E_lb h_lb3 (e2_fin rs_l_turn_b3) = true := by decide +kernel
theorem lp_turn_b3 (hen : en_ok) (l : Launch) : ∀ d, 260 ≤ d → ∀ M, e2_MT[261]? = some M → e2_Met l M d as_l_turn_b3 E_lb h_lb3 (e2_fin rs_l_turn_b3) := fun d hd M hM => e2_cal_ok (S := S_l_turn_b3) (I := I_l_turn_b3) (H := 250) (fuel := 4000) hen (e2_fa ((cs_b202 hen l (hands_b hen l)).mono (by decide)) e2_fz) e2_fz 0 d (by omega) 261 M hM _ _ _ _ ck_l_turn_b3
def as_l_plain_b3 : List ev_V := [(2, 83, 0)]
noncomputable def rs_l_plain_b3 : e2_Rs := [((11, 0, 4294967295), h_lb3)]
noncomputable def S_l_plain_b3 : List e2_Sm := [s_b206]
noncomputable def I_l_plain_b3 : List e2_In := []
set_option maxRecDepth 1000000 in
theorem ck_l_plain_b3 : e2_cal S_l_plain_b3 I_l_plain_b3 4000 0 262 as_l_plain_b3 E_lb h_lb3 (e2_fin rs_l_plain_b3) = true := by decide +kernel
theorem lp_plain_b3 (hen : en_ok) (l : Launch) : ∀ d, 260 ≤ d → ∀ M, e2_MT[262]? = some M → e2_Met l M d as_l_plain_b3 E_lb h_lb3 (e2_fin rs_l_plain_b3) := fun d hd M hM => e2_cal_ok (S := S_l_plain_b3) (I := I_l_plain_b3) (H := 250) (fuel := 4000) hen (e2_fa ((cs_b206 hen l (hands_b hen l)).mono (by decide)) e2_fz) e2_fz 0 d (by omega) 262 M hM _ _ _ _ ck_l_plain_b3
def as_l_write_b3 : List ev_V := [(2, 83, 0), (11, 0, 4294967295), (11, 0, 4294967295), (11, 0, 4294967295)]
noncomputable def rs_l_write_b3 : e2_Rs := [((11, 0, 4294967295), h_lb3)]
noncomputable def S_l_write_b3 : List e2_Sm := [s_b216]
noncomputable def I_l_write_b3 : List e2_In := []
set_option maxRecDepth 1000000 in
theorem ck_l_write_b3 : e2_cal S_l_write_b3 I_l_write_b3 4000 0 269 as_l_write_b3 E_lb h_lb3 (e2_fin rs_l_write_b3) = true := by decide +kernel
theorem lp_write_b3 (hen : en_ok) (l : Launch) : ∀ d, 260 ≤ d → ∀ M, e2_MT[269]? = some M → e2_Met l M d as_l_write_b3 E_lb h_lb3 (e2_fin rs_l_write_b3) := fun d hd M hM => e2_cal_ok (S := S_l_write_b3) (I := I_l_write_b3) (H := 250) (fuel := 4000) hen (e2_fa ((cs_b216 hen l (hands_b hen l)).mono (by decide)) e2_fz) e2_fz 0 d (by omega) 269 M hM _ _ _ _ ck_l_write_b3
def as_l_watch_b3 : List ev_V := [(2, 83, 0)]
noncomputable def rs_l_watch_b3 : e2_Rs := [((11, 0, 4294967295), h_lb3)]
noncomputable def S_l_watch_b3 : List e2_Sm := [s_b220]
noncomputable def I_l_watch_b3 : List e2_In := []
set_option maxRecDepth 1000000 in
theorem ck_l_watch_b3 : e2_cal S_l_watch_b3 I_l_watch_b3 4000 0 270 as_l_watch_b3 E_lb h_lb3 (e2_fin rs_l_watch_b3) = true := by decide +kernel
theorem lp_watch_b3 (hen : en_ok) (l : Launch) : ∀ d, 260 ≤ d → ∀ M, e2_MT[270]? = some M → e2_Met l M d as_l_watch_b3 E_lb h_lb3 (e2_fin rs_l_watch_b3) := fun d hd M hM => e2_cal_ok (S := S_l_watch_b3) (I := I_l_watch_b3) (H := 250) (fuel := 4000) hen (e2_fa ((cs_b220 hen l (hands_b hen l)).mono (by decide)) e2_fz) e2_fz 0 d (by omega) 270 M hM _ _ _ _ ck_l_watch_b3
def as_l_cows_b3 : List ev_V := [(2, 83, 0), (11, 0, 4294967295), (11, 0, 4294967295)]
noncomputable def rs_l_cows_b3 : e2_Rs := [((11, 0, 4294967295), h_lb3)]
noncomputable def S_l_cows_b3 : List e2_Sm := [s_b224]
noncomputable def I_l_cows_b3 : List e2_In := []
set_option maxRecDepth 1000000 in
theorem ck_l_cows_b3 : e2_cal S_l_cows_b3 I_l_cows_b3 4000 0 271 as_l_cows_b3 E_lb h_lb3 (e2_fin rs_l_cows_b3) = true := by decide +kernel
theorem lp_cows_b3 (hen : en_ok) (l : Launch) : ∀ d, 260 ≤ d → ∀ M, e2_MT[271]? = some M → e2_Met l M d as_l_cows_b3 E_lb h_lb3 (e2_fin rs_l_cows_b3) := fun d hd M hM => e2_cal_ok (S := S_l_cows_b3) (I := I_l_cows_b3) (H := 250) (fuel := 4000) hen (e2_fa ((cs_b224 hen l (hands_b hen l)).mono (by decide)) e2_fz) e2_fz 0 d (by omega) 271 M hM _ _ _ _ ck_l_cows_b3
def as_l_duel_b3 : List ev_V := [(2, 83, 0), (11, 0, 4294967295), (11, 0, 4294967295), (11, 0, 4294967295), (11, 0, 4294967295)]
noncomputable def rs_l_duel_b3 : e2_Rs := [((11, 0, 4294967295), h_lb3)]
noncomputable def S_l_duel_b3 : List e2_Sm := [s_b230]
noncomputable def I_l_duel_b3 : List e2_In := []
set_option maxRecDepth 1000000 in
theorem ck_l_duel_b3 : e2_cal S_l_duel_b3 I_l_duel_b3 4000 0 274 as_l_duel_b3 E_lb h_lb3 (e2_fin rs_l_duel_b3) = true := by decide +kernel
theorem lp_duel_b3 (hen : en_ok) (l : Launch) : ∀ d, 260 ≤ d → ∀ M, e2_MT[274]? = some M → e2_Met l M d as_l_duel_b3 E_lb h_lb3 (e2_fin rs_l_duel_b3) := fun d hd M hM => e2_cal_ok (S := S_l_duel_b3) (I := I_l_duel_b3) (H := 250) (fuel := 4000) hen (e2_fa ((cs_b230 hen l (hands_b hen l)).mono (by decide)) e2_fz) e2_fz 0 d (by omega) 274 M hM _ _ _ _ ck_l_duel_b3
def as_l_lies_b3 : List ev_V := [(2, 83, 0), (11, 0, 4294967295)]
noncomputable def rs_l_lies_b3 : e2_Rs := [((11, 0, 4294967295), h_lb3)]
noncomputable def S_l_lies_b3 : List e2_Sm := []
noncomputable def I_l_lies_b3 : List e2_In := [(212, 3, e2x_212), (250, 2, e2x_250)]
set_option maxRecDepth 1000000 in
theorem ck_l_lies_b3 : e2_cal S_l_lies_b3 I_l_lies_b3 4000 2 250 as_l_lies_b3 E_lb h_lb3 (e2_fin rs_l_lies_b3) = true := by decide +kernel
theorem lp_lies_b3 (hen : en_ok) (l : Launch) : ∀ d, 260 ≤ d → ∀ M, e2_MT[250]? = some M → e2_Met l M d as_l_lies_b3 E_lb h_lb3 (e2_fin rs_l_lies_b3) := fun d hd M hM => e2_cal_ok (S := S_l_lies_b3) (I := I_l_lies_b3) (H := 250) (fuel := 4000) hen e2_fz (e2_fa ein_212 (e2_fa ein_250 e2_fz)) 2 d (by omega) 250 M hM _ _ _ _ ck_l_lies_b3
def as_l_heard_b3 : List ev_V := [(2, 83, 0), (11, 0, 4294967295), (11, 0, 4294967295), (11, 0, 4294967295), (11, 2147483648, 2147483649)]
noncomputable def rs_l_heard_b3 : e2_Rs := [((11, 0, 4294967295), h_lb3)]
noncomputable def S_l_heard_b3 : List e2_Sm := [s_b231]
noncomputable def I_l_heard_b3 : List e2_In := []
set_option maxRecDepth 1000000 in
theorem ck_l_heard_b3 : e2_cal S_l_heard_b3 I_l_heard_b3 4000 0 278 as_l_heard_b3 E_lb h_lb3 (e2_fin rs_l_heard_b3) = true := by decide +kernel
theorem lp_heard_b3 (hen : en_ok) (l : Launch) : ∀ d, 260 ≤ d → ∀ M, e2_MT[278]? = some M → e2_Met l M d as_l_heard_b3 E_lb h_lb3 (e2_fin rs_l_heard_b3) := fun d hd M hM => e2_cal_ok (S := S_l_heard_b3) (I := I_l_heard_b3) (H := 250) (fuel := 4000) hen (e2_fa ((cs_b231 hen l).mono (by decide)) e2_fz) e2_fz 0 d (by omega) 278 M hM _ _ _ _ ck_l_heard_b3
def as_l_untell_b3 : List ev_V := [(2, 83, 0), (11, 0, 4294967295)]
noncomputable def rs_l_untell_b3 : e2_Rs := [((11, 0, 4294967295), h_lb3)]
noncomputable def S_l_untell_b3 : List e2_Sm := []
noncomputable def I_l_untell_b3 : List e2_In := [(212, 3, e2x_212), (279, 2, e2x_279)]
set_option maxRecDepth 1000000 in
theorem ck_l_untell_b3 : e2_cal S_l_untell_b3 I_l_untell_b3 4000 2 279 as_l_untell_b3 E_lb h_lb3 (e2_fin rs_l_untell_b3) = true := by decide +kernel
theorem lp_untell_b3 (hen : en_ok) (l : Launch) : ∀ d, 260 ≤ d → ∀ M, e2_MT[279]? = some M → e2_Met l M d as_l_untell_b3 E_lb h_lb3 (e2_fin rs_l_untell_b3) := fun d hd M hM => e2_cal_ok (S := S_l_untell_b3) (I := I_l_untell_b3) (H := 250) (fuel := 4000) hen e2_fz (e2_fa ein_212 (e2_fa ein_279 e2_fz)) 2 d (by omega) 279 M hM _ _ _ _ ck_l_untell_b3
def as_l_fit_b3 : List ev_V := [(2, 83, 0), (11, 0, 4294967295)]
noncomputable def rs_l_fit_b3 : e2_Rs := [((11, 0, 4294967295), h_lb3)]
noncomputable def S_l_fit_b3 : List e2_Sm := [s_b234]
noncomputable def I_l_fit_b3 : List e2_In := []
set_option maxRecDepth 1000000 in
theorem ck_l_fit_b3 : e2_cal S_l_fit_b3 I_l_fit_b3 4000 0 283 as_l_fit_b3 E_lb h_lb3 (e2_fin rs_l_fit_b3) = true := by decide +kernel
theorem lp_fit_b3 (hen : en_ok) (l : Launch) : ∀ d, 260 ≤ d → ∀ M, e2_MT[283]? = some M → e2_Met l M d as_l_fit_b3 E_lb h_lb3 (e2_fin rs_l_fit_b3) := fun d hd M hM => e2_cal_ok (S := S_l_fit_b3) (I := I_l_fit_b3) (H := 250) (fuel := 4000) hen (e2_fa ((cs_b234 hen l).mono (by decide)) e2_fz) e2_fz 0 d (by omega) 283 M hM _ _ _ _ ck_l_fit_b3
def as_l_sure_b3 : List ev_V := [(2, 83, 0), (11, 0, 4294967295), (11, 0, 4294967295), (11, 0, 4294967295)]
noncomputable def rs_l_sure_b3 : e2_Rs := [((11, 0, 4294967295), h_lb3)]
noncomputable def S_l_sure_b3 : List e2_Sm := [s_b235]
noncomputable def I_l_sure_b3 : List e2_In := []
set_option maxRecDepth 1000000 in
theorem ck_l_sure_b3 : e2_cal S_l_sure_b3 I_l_sure_b3 4000 0 284 as_l_sure_b3 E_lb h_lb3 (e2_fin rs_l_sure_b3) = true := by decide +kernel
theorem lp_sure_b3 (hen : en_ok) (l : Launch) : ∀ d, 260 ≤ d → ∀ M, e2_MT[284]? = some M → e2_Met l M d as_l_sure_b3 E_lb h_lb3 (e2_fin rs_l_sure_b3) := fun d hd M hM => e2_cal_ok (S := S_l_sure_b3) (I := I_l_sure_b3) (H := 250) (fuel := 4000) hen (e2_fa ((cs_b235 hen l).mono (by decide)) e2_fz) e2_fz 0 d (by omega) 284 M hM _ _ _ _ ck_l_sure_b3
def as_l_ask_b3 : List ev_V := [(2, 83, 0), (11, 0, 4294967295), (11, 0, 4294967295)]
noncomputable def rs_l_ask_b3 : e2_Rs := [((11, 0, 4294967295), h_lb3)]
noncomputable def S_l_ask_b3 : List e2_Sm := [s_b236]
noncomputable def I_l_ask_b3 : List e2_In := []
set_option maxRecDepth 1000000 in
theorem ck_l_ask_b3 : e2_cal S_l_ask_b3 I_l_ask_b3 4000 0 285 as_l_ask_b3 E_lb h_lb3 (e2_fin rs_l_ask_b3) = true := by decide +kernel
theorem lp_ask_b3 (hen : en_ok) (l : Launch) : ∀ d, 260 ≤ d → ∀ M, e2_MT[285]? = some M → e2_Met l M d as_l_ask_b3 E_lb h_lb3 (e2_fin rs_l_ask_b3) := fun d hd M hM => e2_cal_ok (S := S_l_ask_b3) (I := I_l_ask_b3) (H := 250) (fuel := 4000) hen (e2_fa ((cs_b236 hen l).mono (by decide)) e2_fz) e2_fz 0 d (by omega) 285 M hM _ _ _ _ ck_l_ask_b3
def as_l_image_b3 : List ev_V := [(2, 83, 0), (11, 0, 4294967295)]
noncomputable def rs_l_image_b3 : e2_Rs := [((11, 0, 4294967295), h_lb3)]
noncomputable def S_l_image_b3 : List e2_Sm := [s_b237]
noncomputable def I_l_image_b3 : List e2_In := []
set_option maxRecDepth 1000000 in
theorem ck_l_image_b3 : e2_cal S_l_image_b3 I_l_image_b3 4000 0 286 as_l_image_b3 E_lb h_lb3 (e2_fin rs_l_image_b3) = true := by decide +kernel
theorem lp_image_b3 (hen : en_ok) (l : Launch) : ∀ d, 260 ≤ d → ∀ M, e2_MT[286]? = some M → e2_Met l M d as_l_image_b3 E_lb h_lb3 (e2_fin rs_l_image_b3) := fun d hd M hM => e2_cal_ok (S := S_l_image_b3) (I := I_l_image_b3) (H := 250) (fuel := 4000) hen (e2_fa ((cs_b237 hen l).mono (by decide)) e2_fz) e2_fz 0 d (by omega) 286 M hM _ _ _ _ ck_l_image_b3
def as_l_back_b3 : List ev_V := [(2, 83, 0), (11, 0, 4294967295)]
noncomputable def rs_l_back_b3 : e2_Rs := [((11, 0, 4294967295), h_lb3), ((11, 0, 4294967295), h_lb3k)]
noncomputable def S_l_back_b3 : List e2_Sm := [s_b238]
noncomputable def I_l_back_b3 : List e2_In := []
set_option maxRecDepth 1000000 in
theorem ck_l_back_b3 : e2_cal S_l_back_b3 I_l_back_b3 4000 0 287 as_l_back_b3 E_lb h_lb3 (e2_fin rs_l_back_b3) = true := by decide +kernel
theorem lp_back_b3 (hen : en_ok) (l : Launch) : ∀ d, 260 ≤ d → ∀ M, e2_MT[287]? = some M → e2_Met l M d as_l_back_b3 E_lb h_lb3 (e2_fin rs_l_back_b3) := fun d hd M hM => e2_cal_ok (S := S_l_back_b3) (I := I_l_back_b3) (H := 250) (fuel := 4000) hen (e2_fa ((cs_b238 hen l).mono (by decide)) e2_fz) e2_fz 0 d (by omega) 287 M hM _ _ _ _ ck_l_back_b3
def as_l_about_b3 : List ev_V := [(2, 83, 0), (11, 0, 4294967295)]
noncomputable def rs_l_about_b3 : e2_Rs := [((11, 0, 4294967295), h_lb3)]
noncomputable def S_l_about_b3 : List e2_Sm := [s_b239]
noncomputable def I_l_about_b3 : List e2_In := []
set_option maxRecDepth 1000000 in
theorem ck_l_about_b3 : e2_cal S_l_about_b3 I_l_about_b3 4000 0 288 as_l_about_b3 E_lb h_lb3 (e2_fin rs_l_about_b3) = true := by decide +kernel
theorem lp_about_b3 (hen : en_ok) (l : Launch) : ∀ d, 260 ≤ d → ∀ M, e2_MT[288]? = some M → e2_Met l M d as_l_about_b3 E_lb h_lb3 (e2_fin rs_l_about_b3) := fun d hd M hM => e2_cal_ok (S := S_l_about_b3) (I := I_l_about_b3) (H := 250) (fuel := 4000) hen (e2_fa ((cs_b239 hen l).mono (by decide)) e2_fz) e2_fz 0 d (by omega) 288 M hM _ _ _ _ ck_l_about_b3
