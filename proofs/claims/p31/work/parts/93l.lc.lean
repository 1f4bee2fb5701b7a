/-! PUBLIC CALLS c, printed by a program -/
def E_lc : e2_E := [(2147483648, 2147583648, 0, 0), (2147483652, 2147483668, 1, 0)]
def lcc0 : ev_C := (9, [(2, 17, 0), (2, 36, 0), (2, 47, 0), (2, 59, 0), (2, 44, 0), (2, 77, 0), (2, 40, 0), (2, 33, 0), (2, 1, 0)])
def lcc1 : ev_C := (228, [])
def lcn0 : e2_Q1 := (lcc0, lcc1)
def lcc2 : ev_C := (50, [(11, 2147483647, 2147483655), (11, 2147483647, 2147483655), (11, 2147483647, 2147483655)])
def lcc3 : ev_C := (999, [])
def lcn1 : e2_Q1 := (lcc2, lcc3)
def lcn2 : e2_Q2 := (lcn0, lcn1)
def lcc4 : ev_C := (54, [(0, 31, 0), (11, 0, 4294967295)])
def lcn3 : e2_Q1 := (lcc4, lcc3)
def lcc5 : ev_C := (196, [])
def lcn4 : e2_Q1 := (lcc5, lcc3)
def lcn5 : e2_Q2 := (lcn3, lcn4)
def lcn6 : e2_Q3 := (lcn2, lcn5)
def lcc6 : ev_C := (54, [(0, 30, 0), (11, 0, 4294967295)])
def lcn7 : e2_Q1 := (lcc6, lcc3)
def lcn8 : e2_Q2 := (lcn3, lcn7)
def lcc7 : ev_C := (54, [(0, 160, 0), (11, 0, 4294967295)])
def lcn9 : e2_Q1 := (lcc7, lcc3)
def lcc8 : ev_C := (212, [])
def lcn10 : e2_Q1 := (lcc8, lcc3)
def lcn11 : e2_Q2 := (lcn9, lcn10)
def lcn12 : e2_Q3 := (lcn8, lcn11)
def lcn13 : e2_Q4 := (lcn6, lcn12)
def lcc9 : ev_C := (54, [(0, 8, 0), (11, 0, 4294967295)])
def lcn14 : e2_Q1 := (lcc9, lcc3)
def lcc10 : ev_C := (54, [(0, 189, 0), (11, 0, 4294967295)])
def lcn15 : e2_Q1 := (lcc10, lcc3)
def lcn16 : e2_Q2 := (lcn14, lcn15)
def lcc11 : ev_C := (6, [(11, 0, 4294967295), (11, 0, 4294967295), (11, 0, 4294967295), (2, 42, 0), (2, 41, 0), (2, 43, 0)])
def lcn17 : e2_Q1 := (lcc11, lcc3)
def lcc12 : ev_C := (204, [])
def lcn18 : e2_Q1 := (lcc12, lcc3)
def lcn19 : e2_Q2 := (lcn17, lcn18)
def lcn20 : e2_Q3 := (lcn16, lcn19)
def lcc13 : ev_C := (188, [])
def lcn21 : e2_Q1 := (lcc13, lcc3)
def lcn22 : e2_Q2 := (lcn14, lcn21)
def lcc14 : ev_C := (220, [])
def lcn23 : e2_Q1 := (lcc14, lcc3)
def lcn24 : e2_Q2 := (lcn14, lcn23)
def lcn25 : e2_Q3 := (lcn22, lcn24)
def lcn26 : e2_Q4 := (lcn20, lcn25)
def lcn27 : e2_Q5 := (lcn13, lcn26)
def lcc15 : ev_C := (53, [(0, 8, 0)])
def lcc16 : ev_C := (232, [])
def lcn28 : e2_Q1 := (lcc15, lcc16)
def lcc17 : ev_C := (54, [(0, 21, 0), (11, 2147483648, 2147483668)])
def lcn29 : e2_Q1 := (lcc17, lcc3)
def lcn30 : e2_Q2 := (lcn28, lcn29)
def lcc18 : ev_C := (6, [(11, 0, 4294967295), (11, 0, 4294967295), (11, 0, 4294967295), (2, 38, 0), (2, 37, 0), (2, 39, 0)])
def lcn31 : e2_Q1 := (lcc18, lcc3)
def lcc19 : ev_C := (200, [])
def lcn32 : e2_Q1 := (lcc19, lcc3)
def lcn33 : e2_Q2 := (lcn31, lcn32)
def lcn34 : e2_Q3 := (lcn30, lcn33)
def lcn35 : e2_Q1 := (lcc15, lcc3)
def lcc20 : ev_C := (184, [])
def lcn36 : e2_Q1 := (lcc20, lcc3)
def lcn37 : e2_Q2 := (lcn35, lcn36)
def lcc21 : ev_C := (216, [])
def lcn38 : e2_Q1 := (lcc21, lcc3)
def lcn39 : e2_Q2 := (lcn15, lcn38)
def lcn40 : e2_Q3 := (lcn37, lcn39)
def lcn41 : e2_Q4 := (lcn34, lcn40)
def lcc22 : ev_C := (54, [(0, 300, 0), (11, 0, 4294967295)])
def lcn42 : e2_Q1 := (lcc22, lcc3)
def lcc23 : ev_C := (54, [(0, 20, 0), (11, 2147483648, 2147483655)])
def lcn43 : e2_Q1 := (lcc23, lcc3)
def lcn44 : e2_Q2 := (lcn42, lcn43)
def lcc24 : ev_C := (2, [(11, 0, 4294967295), (2, 45, 0), (11, 0, 4294967295), (11, 0, 4294967295), (2, 46, 0), (11, 0, 4294967295)])
def lcn45 : e2_Q1 := (lcc24, lcc3)
def lcc25 : ev_C := (208, [])
def lcn46 : e2_Q1 := (lcc25, lcc3)
def lcn47 : e2_Q2 := (lcn45, lcn46)
def lcn48 : e2_Q3 := (lcn44, lcn47)
def lcc26 : ev_C := (192, [])
def lcn49 : e2_Q1 := (lcc26, lcc3)
def lcn50 : e2_Q2 := (lcn42, lcn49)
def lcc27 : ev_C := (54, [(0, 20, 0), (11, 0, 4294967295)])
def lcn51 : e2_Q1 := (lcc27, lcc3)
def lcc28 : ev_C := (224, [])
def lcn52 : e2_Q1 := (lcc28, lcc3)
def lcn53 : e2_Q2 := (lcn51, lcn52)
def lcn54 : e2_Q3 := (lcn50, lcn53)
def lcn55 : e2_Q4 := (lcn48, lcn54)
def lcn56 : e2_Q5 := (lcn41, lcn55)
def lcn57 : e2_Q6 := (lcn27, lcn56)
def lcc29 : ev_C := (53, [(0, 4, 0)])
def lcc30 : ev_C := (230, [])
def lcn58 : e2_Q1 := (lcc29, lcc30)
def lcn59 : e2_Q2 := (lcn58, lcn9)
def lcc31 : ev_C := (7, [(11, 2147483648, 2147485248), (2, 35, 0), (11, 2147483648, 2147485248), (11, 2147483520, 2147483775), (11, 2147483648, 2147485248), (11, 0, 4294967295), (5, 0, 0), (11, 2147482048, 2147485248)])
def lcn60 : e2_Q1 := (lcc31, lcc3)
def lcc32 : ev_C := (198, [])
def lcn61 : e2_Q1 := (lcc32, lcc3)
def lcn62 : e2_Q2 := (lcn60, lcn61)
def lcn63 : e2_Q3 := (lcn59, lcn62)
def lcn64 : e2_Q1 := (lcc29, lcc3)
def lcc33 : ev_C := (54, [(0, 16, 0), (11, 0, 4294967295)])
def lcn65 : e2_Q1 := (lcc33, lcc3)
def lcn66 : e2_Q2 := (lcn64, lcn65)
def lcc34 : ev_C := (214, [])
def lcn67 : e2_Q1 := (lcc34, lcc3)
def lcn68 : e2_Q2 := (lcn29, lcn67)
def lcn69 : e2_Q3 := (lcn66, lcn68)
def lcn70 : e2_Q4 := (lcn63, lcn69)
def lcn71 : e2_Q2 := (lcn14, lcn14)
def lcc35 : ev_C := (206, [])
def lcn72 : e2_Q1 := (lcc35, lcc3)
def lcn73 : e2_Q2 := (lcn51, lcn72)
def lcn74 : e2_Q3 := (lcn71, lcn73)
def lcc36 : ev_C := (190, [])
def lcn75 : e2_Q1 := (lcc36, lcc3)
def lcn76 : e2_Q2 := (lcn14, lcn75)
def lcc37 : ev_C := (222, [])
def lcn77 : e2_Q1 := (lcc37, lcc3)
def lcn78 : e2_Q2 := (lcn43, lcn77)
def lcn79 : e2_Q3 := (lcn76, lcn78)
def lcn80 : e2_Q4 := (lcn74, lcn79)
def lcn81 : e2_Q5 := (lcn70, lcn80)
def lcc38 : ev_C := (50, [(11, 2147483648, 2147483654), (11, 2147483648, 2147483654), (11, 2147483648, 2147483654), (11, 2147483648, 2147483654), (11, 2147483648, 2147483654), (11, 2147483648, 2147483654), (11, 2147483648, 2147483654), (11, 2147483648, 2147483654)])
def lcn82 : e2_Q1 := (lcc38, lcc3)
def lcn83 : e2_Q2 := (lcn82, lcn15)
def lcc39 : ev_C := (202, [])
def lcn84 : e2_Q1 := (lcc39, lcc3)
def lcn85 : e2_Q2 := (lcn51, lcn84)
def lcn86 : e2_Q3 := (lcn83, lcn85)
def lcc40 : ev_C := (58, [(11, 2147483648, 2147483654), (11, 2147483648, 2147483654), (11, 2147483648, 2147483654), (11, 2147483648, 2147483654), (11, 2147483648, 2147483654), (11, 2147483648, 2147483654), (11, 2147483648, 2147483654), (11, 2147483648, 2147483654)])
def lcn87 : e2_Q1 := (lcc40, lcc3)
def lcc41 : ev_C := (186, [])
def lcn88 : e2_Q1 := (lcc41, lcc3)
def lcn89 : e2_Q2 := (lcn87, lcn88)
def lcc42 : ev_C := (218, [])
def lcn90 : e2_Q1 := (lcc42, lcc3)
def lcn91 : e2_Q2 := (lcn15, lcn90)
def lcn92 : e2_Q3 := (lcn89, lcn91)
def lcn93 : e2_Q4 := (lcn86, lcn92)
def lcc43 : ev_C := (0, [(2, 15, 0), (2, 16, 0), (11, 0, 4294967295), (11, 2147483648, 2147483948)])
def lcn94 : e2_Q1 := (lcc43, lcc3)
def lcn95 : e2_Q2 := (lcn94, lcn7)
def lcc44 : ev_C := (54, [(0, 81, 0), (11, 0, 4294967295)])
def lcn96 : e2_Q1 := (lcc44, lcc3)
def lcc45 : ev_C := (210, [])
def lcn97 : e2_Q1 := (lcc45, lcc3)
def lcn98 : e2_Q2 := (lcn96, lcn97)
def lcn99 : e2_Q3 := (lcn95, lcn98)
def lcc46 : ev_C := (0, [(2, 31, 0), (2, 32, 0), (11, 0, 4294967295), (11, 2147483648, 2147483948)])
def lcn100 : e2_Q1 := (lcc46, lcc3)
def lcc47 : ev_C := (194, [])
def lcn101 : e2_Q1 := (lcc47, lcc3)
def lcn102 : e2_Q2 := (lcn100, lcn101)
def lcc48 : ev_C := (226, [])
def lcn103 : e2_Q1 := (lcc48, lcc3)
def lcn104 : e2_Q2 := (lcn14, lcn103)
def lcn105 : e2_Q3 := (lcn102, lcn104)
def lcn106 : e2_Q4 := (lcn99, lcn105)
def lcn107 : e2_Q5 := (lcn93, lcn106)
def lcn108 : e2_Q6 := (lcn81, lcn107)
def lcn109 : e2_Q7 := (lcn57, lcn108)
def lcc49 : ev_C := (8, [(11, 2147483652, 2147483668), (11, 2147483648, 2147483656), (11, 0, 4294967295), (2, 3, 0), (2, 9, 0), (2, 10, 0), (11, 2147483648, 2147483652), (11, 0, 4294967295), (11, 0, 4294967295), (11, 0, 4294967295), (2, 11, 0), (2, 14, 0), (2, 2, 0), (2, 4, 0), (2, 5, 0), (2, 6, 0), (2, 7, 0), (2, 8, 0)])
def lcc50 : ev_C := (229, [])
def lcn110 : e2_Q1 := (lcc49, lcc50)
def lcc51 : ev_C := (5, [(2, 68, 0), (11, 0, 4294967295), (2, 69, 0), (2, 72, 0), (7, 0, 0), (2, 70, 0), (11, 2147483648, 2147483649), (2, 67, 0), (11, 2147483648, 2147483668), (2, 71, 0), (2, 66, 0), (2, 73, 0), (2, 74, 0), (2, 75, 0), (2, 76, 0)])
def lcn111 : e2_Q1 := (lcc51, lcc3)
def lcn112 : e2_Q2 := (lcn110, lcn111)
def lcc52 : ev_C := (3, [(2, 34, 0), (7, 0, 0), (11, 2147483648, 2147485248), (11, 2147483648, 2147483649), (11, 0, 4294967295), (11, 0, 4294967295), (11, 0, 4294967295), (11, 0, 4294967295)])
def lcn113 : e2_Q1 := (lcc52, lcc3)
def lcc53 : ev_C := (197, [])
def lcn114 : e2_Q1 := (lcc53, lcc3)
def lcn115 : e2_Q2 := (lcn113, lcn114)
def lcn116 : e2_Q3 := (lcn112, lcn115)
def lcc54 : ev_C := (8, [(1, 1, 4294967296), (11, 2147483648, 2147483656), (11, 0, 4294967295), (2, 19, 0), (2, 25, 0), (2, 26, 0), (11, 2147483648, 2147483652), (11, 0, 4294967295), (11, 0, 4294967295), (11, 0, 4294967295), (2, 27, 0), (2, 30, 0), (2, 18, 0), (2, 20, 0), (2, 21, 0), (2, 22, 0), (2, 23, 0), (2, 24, 0)])
def lcn117 : e2_Q1 := (lcc54, lcc3)
def lcn118 : e2_Q2 := (lcn117, lcn7)
def lcc55 : ev_C := (54, [(0, 6, 0), (11, 0, 4294967295)])
def lcn119 : e2_Q1 := (lcc55, lcc3)
def lcc56 : ev_C := (213, [])
def lcn120 : e2_Q1 := (lcc56, lcc3)
def lcn121 : e2_Q2 := (lcn119, lcn120)
def lcn122 : e2_Q3 := (lcn118, lcn121)
def lcn123 : e2_Q4 := (lcn116, lcn122)
def lcc57 : ev_C := (54, [(0, 4, 0), (11, 0, 4294967295)])
def lcn124 : e2_Q1 := (lcc57, lcc3)
def lcc58 : ev_C := (205, [])
def lcn125 : e2_Q1 := (lcc58, lcc3)
def lcn126 : e2_Q2 := (lcn124, lcn125)
def lcn127 : e2_Q3 := (lcn71, lcn126)
def lcc59 : ev_C := (189, [])
def lcn128 : e2_Q1 := (lcc59, lcc3)
def lcn129 : e2_Q2 := (lcn14, lcn128)
def lcc60 : ev_C := (54, [(0, 20, 0), (11, 2147483648, 2147483667)])
def lcn130 : e2_Q1 := (lcc60, lcc3)
def lcc61 : ev_C := (221, [])
def lcn131 : e2_Q1 := (lcc61, lcc3)
def lcn132 : e2_Q2 := (lcn130, lcn131)
def lcn133 : e2_Q3 := (lcn129, lcn132)
def lcn134 : e2_Q4 := (lcn127, lcn133)
def lcn135 : e2_Q5 := (lcn123, lcn134)
def lcc62 : ev_C := (54, [(0, 21, 0), (11, 0, 4294967295)])
def lcn136 : e2_Q1 := (lcc62, lcc3)
def lcn137 : e2_Q2 := (lcn14, lcn136)
def lcc63 : ev_C := (201, [])
def lcn138 : e2_Q1 := (lcc63, lcc3)
def lcn139 : e2_Q2 := (lcn124, lcn138)
def lcn140 : e2_Q3 := (lcn137, lcn139)
def lcc64 : ev_C := (185, [])
def lcn141 : e2_Q1 := (lcc64, lcc3)
def lcn142 : e2_Q2 := (lcn14, lcn141)
def lcc65 : ev_C := (54, [(0, 189, 0), (11, 2147483647, 2147483655)])
def lcn143 : e2_Q1 := (lcc65, lcc3)
def lcc66 : ev_C := (217, [])
def lcn144 : e2_Q1 := (lcc66, lcc3)
def lcn145 : e2_Q2 := (lcn143, lcn144)
def lcn146 : e2_Q3 := (lcn142, lcn145)
def lcn147 : e2_Q4 := (lcn140, lcn146)
def lcc67 : ev_C := (1, [(2, 82, 0), (11, 2147483648, 2147483652), (11, 2147483648, 2147483678), (1, 0, 4294967296), (2, 78, 0), (2, 79, 0), (2, 80, 0), (2, 81, 0)])
def lcn148 : e2_Q1 := (lcc67, lcc3)
def lcn149 : e2_Q2 := (lcn3, lcn148)
def lcc68 : ev_C := (54, [(0, 1107, 0), (11, 0, 4294967295)])
def lcn150 : e2_Q1 := (lcc68, lcc3)
def lcc69 : ev_C := (209, [])
def lcn151 : e2_Q1 := (lcc69, lcc3)
def lcn152 : e2_Q2 := (lcn150, lcn151)
def lcn153 : e2_Q3 := (lcn149, lcn152)
def lcc70 : ev_C := (193, [])
def lcn154 : e2_Q1 := (lcc70, lcc3)
def lcn155 : e2_Q2 := (lcn3, lcn154)
def lcc71 : ev_C := (225, [])
def lcn156 : e2_Q1 := (lcc71, lcc3)
def lcn157 : e2_Q2 := (lcn51, lcn156)
def lcn158 : e2_Q3 := (lcn155, lcn157)
def lcn159 : e2_Q4 := (lcn153, lcn158)
def lcn160 : e2_Q5 := (lcn147, lcn159)
def lcn161 : e2_Q6 := (lcn135, lcn160)
def lcc72 : ev_C := (231, [])
def lcn162 : e2_Q1 := (lcc57, lcc72)
def lcn163 : e2_Q2 := (lcn162, lcn119)
def lcc73 : ev_C := (55, [(0, 1600, 0), (11, 2147483520, 2147483775)])
def lcn164 : e2_Q1 := (lcc73, lcc3)
def lcc74 : ev_C := (199, [])
def lcn165 : e2_Q1 := (lcc74, lcc3)
def lcn166 : e2_Q2 := (lcn164, lcn165)
def lcn167 : e2_Q3 := (lcn163, lcn166)
def lcc75 : ev_C := (183, [])
def lcn168 : e2_Q1 := (lcc75, lcc3)
def lcn169 : e2_Q2 := (lcn124, lcn168)
def lcc76 : ev_C := (215, [])
def lcn170 : e2_Q1 := (lcc76, lcc3)
def lcn171 : e2_Q2 := (lcn136, lcn170)
def lcn172 : e2_Q3 := (lcn169, lcn171)
def lcn173 : e2_Q4 := (lcn167, lcn172)
def lcc77 : ev_C := (0, [(2, 12, 0), (2, 13, 0), (11, 0, 4294967295), (11, 2147483648, 2147483948)])
def lcn174 : e2_Q1 := (lcc77, lcc3)
def lcn175 : e2_Q2 := (lcn174, lcn130)
def lcc78 : ev_C := (207, [])
def lcn176 : e2_Q1 := (lcc78, lcc3)
def lcn177 : e2_Q2 := (lcn119, lcn176)
def lcn178 : e2_Q3 := (lcn175, lcn177)
def lcc79 : ev_C := (0, [(2, 28, 0), (2, 29, 0), (11, 0, 4294967295), (11, 2147483648, 2147483948)])
def lcn179 : e2_Q1 := (lcc79, lcc3)
def lcc80 : ev_C := (191, [])
def lcn180 : e2_Q1 := (lcc80, lcc3)
def lcn181 : e2_Q2 := (lcn179, lcn180)
def lcc81 : ev_C := (4, [(2, 65, 0), (2, 63, 0), (7, 0, 0), (11, 0, 4294967295), (2, 62, 0), (11, 0, 4294967295), (11, 2147483648, 2147483668), (2, 60, 0), (11, 2147483648, 2147483668), (11, 0, 4294967295), (11, 0, 4294967295), (2, 61, 0), (2, 64, 0), (11, 2147483648, 2147483651)])
def lcn182 : e2_Q1 := (lcc81, lcc3)
def lcc82 : ev_C := (223, [])
def lcn183 : e2_Q1 := (lcc82, lcc3)
def lcn184 : e2_Q2 := (lcn182, lcn183)
def lcn185 : e2_Q3 := (lcn181, lcn184)
def lcn186 : e2_Q4 := (lcn178, lcn185)
def lcn187 : e2_Q5 := (lcn173, lcn186)
def lcc83 : ev_C := (54, [(0, 8, 0), (11, 2147483648, 2147483651)])
def lcn188 : e2_Q1 := (lcc83, lcc3)
def lcn189 : e2_Q2 := (lcn188, lcn143)
def lcc84 : ev_C := (203, [])
def lcn190 : e2_Q1 := (lcc84, lcc3)
def lcn191 : e2_Q2 := (lcn119, lcn190)
def lcn192 : e2_Q3 := (lcn189, lcn191)
def lcc85 : ev_C := (187, [])
def lcn193 : e2_Q1 := (lcc85, lcc3)
def lcn194 : e2_Q2 := (lcn188, lcn193)
def lcc86 : ev_C := (219, [])
def lcn195 : e2_Q1 := (lcc86, lcc3)
def lcn196 : e2_Q2 := (lcn14, lcn195)
def lcn197 : e2_Q3 := (lcn194, lcn196)
def lcn198 : e2_Q4 := (lcn192, lcn197)
def lcc87 : ev_C := (56, [(0, 30, 0), (11, 2147483648, 2147483649)])
def lcn199 : e2_Q1 := (lcc87, lcc3)
def lcn200 : e2_Q2 := (lcn42, lcn199)
def lcc88 : ev_C := (5, [(2, 50, 0), (11, 0, 4294967295), (2, 51, 0), (2, 54, 0), (7, 0, 0), (2, 52, 0), (11, 2147483648, 2147483649), (2, 49, 0), (11, 2147483648, 2147483668), (2, 53, 0), (2, 48, 0), (2, 55, 0), (2, 56, 0), (2, 57, 0), (2, 58, 0)])
def lcn201 : e2_Q1 := (lcc88, lcc3)
def lcc89 : ev_C := (211, [])
def lcn202 : e2_Q1 := (lcc89, lcc3)
def lcn203 : e2_Q2 := (lcn201, lcn202)
def lcn204 : e2_Q3 := (lcn200, lcn203)
def lcc90 : ev_C := (195, [])
def lcn205 : e2_Q1 := (lcc90, lcc3)
def lcn206 : e2_Q2 := (lcn42, lcn205)
def lcc91 : ev_C := (54, [(0, 256, 0), (11, 0, 4294967295)])
def lcn207 : e2_Q1 := (lcc91, lcc3)
def lcc92 : ev_C := (227, [])
def lcn208 : e2_Q1 := (lcc92, lcc3)
def lcn209 : e2_Q2 := (lcn207, lcn208)
def lcn210 : e2_Q3 := (lcn206, lcn209)
def lcn211 : e2_Q4 := (lcn204, lcn210)
def lcn212 : e2_Q5 := (lcn198, lcn211)
def lcn213 : e2_Q6 := (lcn187, lcn212)
def lcn214 : e2_Q7 := (lcn161, lcn213)
def lcn215 : e2_Q8 := (lcn109, lcn214)
noncomputable def h_lc : ev_H := (lcn215 : e2_Q8)
def lcn216 : e2_Q2 := (lcn82, lcn88)
def lcn217 : e2_Q3 := (lcn216, lcn91)
def lcn218 : e2_Q4 := (lcn86, lcn217)
def lcn219 : e2_Q5 := (lcn218, lcn106)
def lcn220 : e2_Q6 := (lcn81, lcn219)
def lcn221 : e2_Q7 := (lcn57, lcn220)
def lcc93 : ev_C := (8, [(11, 2147483652, 2147483668), (11, 2147483648, 2147483656), (11, 0, 4294967295), (2, 19, 0), (2, 25, 0), (2, 26, 0), (11, 2147483648, 2147483652), (11, 0, 4294967295), (11, 0, 4294967295), (11, 0, 4294967295), (2, 27, 0), (2, 30, 0), (2, 18, 0), (2, 20, 0), (2, 21, 0), (2, 22, 0), (2, 23, 0), (2, 24, 0)])
def lcn222 : e2_Q1 := (lcc93, lcc3)
def lcn223 : e2_Q2 := (lcn222, lcn7)
def lcn224 : e2_Q3 := (lcn223, lcn121)
def lcn225 : e2_Q4 := (lcn116, lcn224)
def lcn226 : e2_Q5 := (lcn225, lcn134)
def lcn227 : e2_Q6 := (lcn226, lcn160)
def lcn228 : e2_Q7 := (lcn227, lcn213)
def lcn229 : e2_Q8 := (lcn221, lcn228)
noncomputable def h_wc : ev_H := (lcn229 : e2_Q8)
def as_l_feed_c : List ev_V := [(2, 0, 0), (11, 0, 4294967295), (11, 0, 4294967295), (11, 0, 4294967295), (11, 0, 4294967295), (11, 0, 4294967295)]
noncomputable def rs_l_feed_c : e2_Rs := [((11, 0, 4294967295), h_lc)]
noncomputable def S_l_feed_c : List e2_Sm := [s_c243]
noncomputable def I_l_feed_c : List e2_In := []
set_option maxRecDepth 1000000 in
theorem ck_l_feed_c : e2_cal S_l_feed_c I_l_feed_c 4000 0 123 as_l_feed_c E_lc h_lc (e2_fin rs_l_feed_c) = true := by decide +kernel
theorem lp_feed_c (hen : en_ok) (l : Launch) : ∀ d, 260 ≤ d → ∀ M, e2_MT[123]? = some M → e2_Met l M d as_l_feed_c E_lc h_lc (e2_fin rs_l_feed_c) := fun d hd M hM => e2_cal_ok (S := S_l_feed_c) (I := I_l_feed_c) (H := 250) (fuel := 4000) hen (e2_fa ((cs_c243 hen l).mono (by decide)) e2_fz) e2_fz 0 d (by omega) 123 M hM _ _ _ _ ck_l_feed_c
def as_l_end_c : List ev_V := [(2, 0, 0), (11, 0, 4294967295)]
noncomputable def rs_l_end_c : e2_Rs := [((11, 0, 4294967295), h_lc)]
noncomputable def S_l_end_c : List e2_Sm := []
noncomputable def I_l_end_c : List e2_In := [(106, 2, e2x_106), (124, 2, e2x_124)]
set_option maxRecDepth 1000000 in
theorem ck_l_end_c : e2_cal S_l_end_c I_l_end_c 4000 2 124 as_l_end_c E_lc h_lc (e2_fin rs_l_end_c) = true := by decide +kernel
theorem lp_end_c (hen : en_ok) (l : Launch) : ∀ d, 260 ≤ d → ∀ M, e2_MT[124]? = some M → e2_Met l M d as_l_end_c E_lc h_lc (e2_fin rs_l_end_c) := fun d hd M hM => e2_cal_ok (S := S_l_end_c) (I := I_l_end_c) (H := 250) (fuel := 4000) hen e2_fz (e2_fa ein_106 (e2_fa ein_124 e2_fz)) 2 d (by omega) 124 M hM _ _ _ _ ck_l_end_c
def lcc94 : ev_C := (3, [(2, 34, 0), (2, 1, 0), (11, 2147483648, 2147485248), (11, 2147483648, 2147483649), (11, 0, 4294967295), (11, 0, 4294967295), (11, 0, 4294967295), (11, 0, 4294967295)])
def lcn230 : e2_Q1 := (lcc94, lcc3)
def lcn231 : e2_Q2 := (lcn230, lcn114)
def lcn232 : e2_Q3 := (lcn112, lcn231)
def lcn233 : e2_Q4 := (lcn232, lcn122)
def lcn234 : e2_Q5 := (lcn233, lcn134)
def lcn235 : e2_Q6 := (lcn234, lcn160)
def lcn236 : e2_Q7 := (lcn235, lcn213)
def lcn237 : e2_Q8 := (lcn109, lcn236)
noncomputable def h_lcm0 : ev_H := (lcn237 : e2_Q8)
def lcc95 : ev_C := (9, [(2, 1, 0), (2, 36, 0), (2, 47, 0), (2, 59, 0), (2, 44, 0), (2, 77, 0), (2, 40, 0), (2, 33, 0), (2, 17, 0)])
def lcn238 : e2_Q1 := (lcc95, lcc1)
def lcn239 : e2_Q2 := (lcn238, lcn1)
def lcn240 : e2_Q3 := (lcn239, lcn5)
def lcn241 : e2_Q4 := (lcn240, lcn12)
def lcn242 : e2_Q5 := (lcn241, lcn26)
def lcn243 : e2_Q6 := (lcn242, lcn56)
def lcn244 : e2_Q7 := (lcn243, lcn108)
def lcn245 : e2_Q8 := (lcn244, lcn236)
noncomputable def h_lcm1 : ev_H := (lcn245 : e2_Q8)
def as_l_meadow_c : List ev_V := [(2, 0, 0)]
noncomputable def rs_l_meadow_c : e2_Rs := [((11, 0, 4294967295), h_lcm0), ((11, 0, 4294967295), h_lcm1)]
noncomputable def S_l_meadow_c : List e2_Sm := [s_c244]
noncomputable def I_l_meadow_c : List e2_In := []
set_option maxRecDepth 1000000 in
theorem ck_l_meadow_c : e2_cal S_l_meadow_c I_l_meadow_c 4000 0 125 as_l_meadow_c E_lc h_lc (e2_fin rs_l_meadow_c) = true := by decide +kernel
theorem lp_meadow_c (hen : en_ok) (l : Launch) : ∀ d, 260 ≤ d → ∀ M, e2_MT[125]? = some M → e2_Met l M d as_l_meadow_c E_lc h_lc (e2_fin rs_l_meadow_c) := fun d hd M hM => e2_cal_ok (S := S_l_meadow_c) (I := I_l_meadow_c) (H := 250) (fuel := 4000) hen (e2_fa ((cs_c244 hen l (hands_c hen l)).mono (by decide)) e2_fz) e2_fz 0 d (by omega) 125 M hM _ _ _ _ ck_l_meadow_c
def as_l_fault_c : List ev_V := [(2, 0, 0), (11, 0, 4294967295)]
noncomputable def rs_l_fault_c : e2_Rs := [((11, 0, 4294967295), h_lc)]
noncomputable def S_l_fault_c : List e2_Sm := []
noncomputable def I_l_fault_c : List e2_In := [(126, 2, e2x_126)]
set_option maxRecDepth 1000000 in
theorem ck_l_fault_c : e2_cal S_l_fault_c I_l_fault_c 4000 1 126 as_l_fault_c E_lc h_lc (e2_fin rs_l_fault_c) = true := by decide +kernel
theorem lp_fault_c (hen : en_ok) (l : Launch) : ∀ d, 260 ≤ d → ∀ M, e2_MT[126]? = some M → e2_Met l M d as_l_fault_c E_lc h_lc (e2_fin rs_l_fault_c) := fun d hd M hM => e2_cal_ok (S := S_l_fault_c) (I := I_l_fault_c) (H := 250) (fuel := 4000) hen e2_fz (e2_fa ein_126 e2_fz) 1 d (by omega) 126 M hM _ _ _ _ ck_l_fault_c
def as_l_thing_c : List ev_V := [(2, 0, 0), (11, 0, 4294967295)]
noncomputable def rs_l_thing_c : e2_Rs := [((11, 0, 4294967295), h_lc)]
noncomputable def S_l_thing_c : List e2_Sm := []
noncomputable def I_l_thing_c : List e2_In := [(127, 2, e2x_127), (161, 2, e2x_161)]
set_option maxRecDepth 1000000 in
theorem ck_l_thing_c : e2_cal S_l_thing_c I_l_thing_c 4000 2 127 as_l_thing_c E_lc h_lc (e2_fin rs_l_thing_c) = true := by decide +kernel
theorem lp_thing_c (hen : en_ok) (l : Launch) : ∀ d, 260 ≤ d → ∀ M, e2_MT[127]? = some M → e2_Met l M d as_l_thing_c E_lc h_lc (e2_fin rs_l_thing_c) := fun d hd M hM => e2_cal_ok (S := S_l_thing_c) (I := I_l_thing_c) (H := 250) (fuel := 4000) hen e2_fz (e2_fa ein_127 (e2_fa ein_161 e2_fz)) 2 d (by omega) 127 M hM _ _ _ _ ck_l_thing_c
def as_l_glyph_c : List ev_V := [(2, 0, 0), (11, 0, 4294967295), (11, 0, 4294967295)]
noncomputable def rs_l_glyph_c : e2_Rs := [((11, 0, 4294967295), h_lc)]
noncomputable def S_l_glyph_c : List e2_Sm := [s_c247]
noncomputable def I_l_glyph_c : List e2_In := []
set_option maxRecDepth 1000000 in
theorem ck_l_glyph_c : e2_cal S_l_glyph_c I_l_glyph_c 4000 0 128 as_l_glyph_c E_lc h_lc (e2_fin rs_l_glyph_c) = true := by decide +kernel
theorem lp_glyph_c (hen : en_ok) (l : Launch) : ∀ d, 260 ≤ d → ∀ M, e2_MT[128]? = some M → e2_Met l M d as_l_glyph_c E_lc h_lc (e2_fin rs_l_glyph_c) := fun d hd M hM => e2_cal_ok (S := S_l_glyph_c) (I := I_l_glyph_c) (H := 250) (fuel := 4000) hen (e2_fa ((cs_c247 hen l (hands_c hen l)).mono (by decide)) e2_fz) e2_fz 0 d (by omega) 128 M hM _ _ _ _ ck_l_glyph_c
def as_l_plot_c : List ev_V := [(2, 0, 0), (11, 0, 4294967295), (11, 0, 4294967295)]
noncomputable def rs_l_plot_c : e2_Rs := [((11, 0, 4294967295), h_lc)]
noncomputable def S_l_plot_c : List e2_Sm := [s_c248]
noncomputable def I_l_plot_c : List e2_In := []
set_option maxRecDepth 1000000 in
theorem ck_l_plot_c : e2_cal S_l_plot_c I_l_plot_c 4000 0 129 as_l_plot_c E_lc h_lc (e2_fin rs_l_plot_c) = true := by decide +kernel
theorem lp_plot_c (hen : en_ok) (l : Launch) : ∀ d, 260 ≤ d → ∀ M, e2_MT[129]? = some M → e2_Met l M d as_l_plot_c E_lc h_lc (e2_fin rs_l_plot_c) := fun d hd M hM => e2_cal_ok (S := S_l_plot_c) (I := I_l_plot_c) (H := 250) (fuel := 4000) hen (e2_fa ((cs_c248 hen l (hands_c hen l)).mono (by decide)) e2_fz) e2_fz 0 d (by omega) 129 M hM _ _ _ _ ck_l_plot_c
def as_l_mow_c : List ev_V := [(2, 0, 0), (11, 0, 4294967295)]
noncomputable def rs_l_mow_c : e2_Rs := [((11, 0, 4294967295), h_lc)]
noncomputable def S_l_mow_c : List e2_Sm := []
noncomputable def I_l_mow_c : List e2_In := [(9, 4, e2x_9), (35, 2, e2x_35), (36, 1, e2x_36), (101, 2, e2x_101), (130, 2, e2x_130), (163, 2, e2x_163), (291, 1, e2x_291)]
set_option maxRecDepth 1000000 in
theorem ck_l_mow_c : e2_cal S_l_mow_c I_l_mow_c 4000 3 130 as_l_mow_c E_lc h_lc (e2_fin rs_l_mow_c) = true := by decide +kernel
theorem lp_mow_c (hen : en_ok) (l : Launch) : ∀ d, 260 ≤ d → ∀ M, e2_MT[130]? = some M → e2_Met l M d as_l_mow_c E_lc h_lc (e2_fin rs_l_mow_c) := fun d hd M hM => e2_cal_ok (S := S_l_mow_c) (I := I_l_mow_c) (H := 250) (fuel := 4000) hen e2_fz (e2_fa ein_9 (e2_fa ein_35 (e2_fa ein_36 (e2_fa ein_101 (e2_fa ein_130 (e2_fa ein_163 (e2_fa ein_291 e2_fz))))))) 3 d (by omega) 130 M hM _ _ _ _ ck_l_mow_c
def as_l_sow_c : List ev_V := [(2, 0, 0), (11, 0, 4294967295)]
noncomputable def rs_l_sow_c : e2_Rs := [((11, 0, 4294967295), h_lc)]
noncomputable def S_l_sow_c : List e2_Sm := []
noncomputable def I_l_sow_c : List e2_In := [(9, 4, e2x_9), (35, 2, e2x_35), (36, 1, e2x_36), (131, 2, e2x_131), (159, 2, e2x_159), (163, 2, e2x_163), (291, 1, e2x_291)]
set_option maxRecDepth 1000000 in
theorem ck_l_sow_c : e2_cal S_l_sow_c I_l_sow_c 4000 3 131 as_l_sow_c E_lc h_lc (e2_fin rs_l_sow_c) = true := by decide +kernel
theorem lp_sow_c (hen : en_ok) (l : Launch) : ∀ d, 260 ≤ d → ∀ M, e2_MT[131]? = some M → e2_Met l M d as_l_sow_c E_lc h_lc (e2_fin rs_l_sow_c) := fun d hd M hM => e2_cal_ok (S := S_l_sow_c) (I := I_l_sow_c) (H := 250) (fuel := 4000) hen e2_fz (e2_fa ein_9 (e2_fa ein_35 (e2_fa ein_36 (e2_fa ein_131 (e2_fa ein_159 (e2_fa ein_163 (e2_fa ein_291 e2_fz))))))) 3 d (by omega) 131 M hM _ _ _ _ ck_l_sow_c
def as_l_year_c : List ev_V := [(2, 0, 0)]
noncomputable def rs_l_year_c : e2_Rs := [((11, 0, 4294967295), h_lc)]
noncomputable def S_l_year_c : List e2_Sm := [s_c250]
noncomputable def I_l_year_c : List e2_In := []
set_option maxRecDepth 1000000 in
theorem ck_l_year_c : e2_cal S_l_year_c I_l_year_c 4000 0 132 as_l_year_c E_lc h_lc (e2_fin rs_l_year_c) = true := by decide +kernel
theorem lp_year_c (hen : en_ok) (l : Launch) : ∀ d, 260 ≤ d → ∀ M, e2_MT[132]? = some M → e2_Met l M d as_l_year_c E_lc h_lc (e2_fin rs_l_year_c) := fun d hd M hM => e2_cal_ok (S := S_l_year_c) (I := I_l_year_c) (H := 250) (fuel := 4000) hen (e2_fa ((cs_c250 hen l (hands_c hen l)).mono (by decide)) e2_fz) e2_fz 0 d (by omega) 132 M hM _ _ _ _ ck_l_year_c
def as_l_undo_c : List ev_V := [(2, 0, 0)]
noncomputable def rs_l_undo_c : e2_Rs := [((11, 0, 4294967295), h_lc)]
noncomputable def S_l_undo_c : List e2_Sm := []
noncomputable def I_l_undo_c : List e2_In := [(36, 1, e2x_36), (37, 2, e2x_37), (100, 4, e2x_100), (133, 1, e2x_133)]
set_option maxRecDepth 1000000 in
theorem ck_l_undo_c : e2_cal S_l_undo_c I_l_undo_c 4000 3 133 as_l_undo_c E_lc h_lc (e2_fin rs_l_undo_c) = true := by decide +kernel
theorem lp_undo_c (hen : en_ok) (l : Launch) : ∀ d, 260 ≤ d → ∀ M, e2_MT[133]? = some M → e2_Met l M d as_l_undo_c E_lc h_lc (e2_fin rs_l_undo_c) := fun d hd M hM => e2_cal_ok (S := S_l_undo_c) (I := I_l_undo_c) (H := 250) (fuel := 4000) hen e2_fz (e2_fa ein_36 (e2_fa ein_37 (e2_fa ein_100 (e2_fa ein_133 e2_fz)))) 3 d (by omega) 133 M hM _ _ _ _ ck_l_undo_c
def as_l_redo_c : List ev_V := [(2, 0, 0)]
noncomputable def rs_l_redo_c : e2_Rs := [((11, 0, 4294967295), h_lc)]
noncomputable def S_l_redo_c : List e2_Sm := []
noncomputable def I_l_redo_c : List e2_In := [(36, 1, e2x_36), (38, 2, e2x_38), (100, 4, e2x_100), (134, 1, e2x_134)]
set_option maxRecDepth 1000000 in
theorem ck_l_redo_c : e2_cal S_l_redo_c I_l_redo_c 4000 3 134 as_l_redo_c E_lc h_lc (e2_fin rs_l_redo_c) = true := by decide +kernel
theorem lp_redo_c (hen : en_ok) (l : Launch) : ∀ d, 260 ≤ d → ∀ M, e2_MT[134]? = some M → e2_Met l M d as_l_redo_c E_lc h_lc (e2_fin rs_l_redo_c) := fun d hd M hM => e2_cal_ok (S := S_l_redo_c) (I := I_l_redo_c) (H := 250) (fuel := 4000) hen e2_fz (e2_fa ein_36 (e2_fa ein_38 (e2_fa ein_100 (e2_fa ein_134 e2_fz)))) 3 d (by omega) 134 M hM _ _ _ _ ck_l_redo_c
def as_l_readings_c : List ev_V := [(2, 0, 0)]
noncomputable def rs_l_readings_c : e2_Rs := [((11, 0, 4294967295), h_lc)]
noncomputable def S_l_readings_c : List e2_Sm := [s_c251]
noncomputable def I_l_readings_c : List e2_In := []
set_option maxRecDepth 1000000 in
theorem ck_l_readings_c : e2_cal S_l_readings_c I_l_readings_c 4000 0 135 as_l_readings_c E_lc h_lc (e2_fin rs_l_readings_c) = true := by decide +kernel
theorem lp_readings_c (hen : en_ok) (l : Launch) : ∀ d, 260 ≤ d → ∀ M, e2_MT[135]? = some M → e2_Met l M d as_l_readings_c E_lc h_lc (e2_fin rs_l_readings_c) := fun d hd M hM => e2_cal_ok (S := S_l_readings_c) (I := I_l_readings_c) (H := 250) (fuel := 4000) hen (e2_fa ((cs_c251 hen l (hands_c hen l)).mono (by decide)) e2_fz) e2_fz 0 d (by omega) 135 M hM _ _ _ _ ck_l_readings_c
def as_l_taken_c : List ev_V := [(2, 0, 0)]
noncomputable def rs_l_taken_c : e2_Rs := [((11, 0, 4294967295), h_lc)]
noncomputable def S_l_taken_c : List e2_Sm := [s_c252]
noncomputable def I_l_taken_c : List e2_In := []
set_option maxRecDepth 1000000 in
theorem ck_l_taken_c : e2_cal S_l_taken_c I_l_taken_c 4000 0 136 as_l_taken_c E_lc h_lc (e2_fin rs_l_taken_c) = true := by decide +kernel
theorem lp_taken_c (hen : en_ok) (l : Launch) : ∀ d, 260 ≤ d → ∀ M, e2_MT[136]? = some M → e2_Met l M d as_l_taken_c E_lc h_lc (e2_fin rs_l_taken_c) := fun d hd M hM => e2_cal_ok (S := S_l_taken_c) (I := I_l_taken_c) (H := 250) (fuel := 4000) hen (e2_fa ((cs_c252 hen l (hands_c hen l)).mono (by decide)) e2_fz) e2_fz 0 d (by omega) 136 M hM _ _ _ _ ck_l_taken_c
def as_l_weight_c : List ev_V := [(2, 0, 0)]
noncomputable def rs_l_weight_c : e2_Rs := [((11, 0, 4294967295), h_lc)]
noncomputable def S_l_weight_c : List e2_Sm := [s_c253]
noncomputable def I_l_weight_c : List e2_In := []
set_option maxRecDepth 1000000 in
theorem ck_l_weight_c : e2_cal S_l_weight_c I_l_weight_c 4000 0 137 as_l_weight_c E_lc h_lc (e2_fin rs_l_weight_c) = true := by decide +kernel
theorem lp_weight_c (hen : en_ok) (l : Launch) : ∀ d, 260 ≤ d → ∀ M, e2_MT[137]? = some M → e2_Met l M d as_l_weight_c E_lc h_lc (e2_fin rs_l_weight_c) := fun d hd M hM => e2_cal_ok (S := S_l_weight_c) (I := I_l_weight_c) (H := 250) (fuel := 4000) hen (e2_fa ((cs_c253 hen l (hands_c hen l)).mono (by decide)) e2_fz) e2_fz 0 d (by omega) 137 M hM _ _ _ _ ck_l_weight_c
def as_l_does_c : List ev_V := [(2, 0, 0), (11, 0, 4294967295)]
noncomputable def rs_l_does_c : e2_Rs := [((11, 0, 4294967295), h_lc)]
noncomputable def S_l_does_c : List e2_Sm := [s_c254]
noncomputable def I_l_does_c : List e2_In := []
set_option maxRecDepth 1000000 in
theorem ck_l_does_c : e2_cal S_l_does_c I_l_does_c 4000 0 138 as_l_does_c E_lc h_lc (e2_fin rs_l_does_c) = true := by decide +kernel
theorem lp_does_c (hen : en_ok) (l : Launch) : ∀ d, 260 ≤ d → ∀ M, e2_MT[138]? = some M → e2_Met l M d as_l_does_c E_lc h_lc (e2_fin rs_l_does_c) := fun d hd M hM => e2_cal_ok (S := S_l_does_c) (I := I_l_does_c) (H := 250) (fuel := 4000) hen (e2_fa ((cs_c254 hen l (hands_c hen l)).mono (by decide)) e2_fz) e2_fz 0 d (by omega) 138 M hM _ _ _ _ ck_l_does_c
def as_l_will_c : List ev_V := [(2, 0, 0), (11, 0, 4294967295), (11, 0, 4294967295)]
noncomputable def rs_l_will_c : e2_Rs := [((11, 0, 4294967295), h_lc)]
noncomputable def S_l_will_c : List e2_Sm := [s_c258]
noncomputable def I_l_will_c : List e2_In := []
set_option maxRecDepth 1000000 in
theorem ck_l_will_c : e2_cal S_l_will_c I_l_will_c 4000 0 139 as_l_will_c E_lc h_lc (e2_fin rs_l_will_c) = true := by decide +kernel
theorem lp_will_c (hen : en_ok) (l : Launch) : ∀ d, 260 ≤ d → ∀ M, e2_MT[139]? = some M → e2_Met l M d as_l_will_c E_lc h_lc (e2_fin rs_l_will_c) := fun d hd M hM => e2_cal_ok (S := S_l_will_c) (I := I_l_will_c) (H := 250) (fuel := 4000) hen (e2_fa ((cs_c258 hen l (hands_c hen l)).mono (by decide)) e2_fz) e2_fz 0 d (by omega) 139 M hM _ _ _ _ ck_l_will_c
def as_l_field_c : List ev_V := [(2, 0, 0), (11, 0, 4294967295)]
noncomputable def rs_l_field_c : e2_Rs := [((11, 0, 4294967295), h_lc)]
noncomputable def S_l_field_c : List e2_Sm := [s_c259]
noncomputable def I_l_field_c : List e2_In := []
set_option maxRecDepth 1000000 in
theorem ck_l_field_c : e2_cal S_l_field_c I_l_field_c 4000 0 140 as_l_field_c E_lc h_lc (e2_fin rs_l_field_c) = true := by decide +kernel
theorem lp_field_c (hen : en_ok) (l : Launch) : ∀ d, 260 ≤ d → ∀ M, e2_MT[140]? = some M → e2_Met l M d as_l_field_c E_lc h_lc (e2_fin rs_l_field_c) := fun d hd M hM => e2_cal_ok (S := S_l_field_c) (I := I_l_field_c) (H := 250) (fuel := 4000) hen (e2_fa ((cs_c259 hen l (hands_c hen l)).mono (by decide)) e2_fz) e2_fz 0 d (by omega) 140 M hM _ _ _ _ ck_l_field_c
def as_l_harm_c : List ev_V := [(2, 0, 0)]
noncomputable def rs_l_harm_c : e2_Rs := [((11, 0, 4294967295), h_lc)]
noncomputable def S_l_harm_c : List e2_Sm := [s_c260]
noncomputable def I_l_harm_c : List e2_In := []
set_option maxRecDepth 1000000 in
theorem ck_l_harm_c : e2_cal S_l_harm_c I_l_harm_c 4000 0 141 as_l_harm_c E_lc h_lc (e2_fin rs_l_harm_c) = true := by decide +kernel
theorem lp_harm_c (hen : en_ok) (l : Launch) : ∀ d, 260 ≤ d → ∀ M, e2_MT[141]? = some M → e2_Met l M d as_l_harm_c E_lc h_lc (e2_fin rs_l_harm_c) := fun d hd M hM => e2_cal_ok (S := S_l_harm_c) (I := I_l_harm_c) (H := 250) (fuel := 4000) hen (e2_fa ((cs_c260 hen l (hands_c hen l)).mono (by decide)) e2_fz) e2_fz 0 d (by omega) 141 M hM _ _ _ _ ck_l_harm_c
def as_l_turn_c : List ev_V := [(2, 0, 0), (11, 0, 4294967295), (11, 0, 4294967295)]
noncomputable def rs_l_turn_c : e2_Rs := [((11, 0, 4294967295), h_lc)]
noncomputable def S_l_turn_c : List e2_Sm := [s_c261]
noncomputable def I_l_turn_c : List e2_In := []
set_option maxRecDepth 1000000 in
theorem ck_l_turn_c : e2_cal S_l_turn_c I_l_turn_c 4000 0 142 as_l_turn_c E_lc h_lc (e2_fin rs_l_turn_c) = true := by decide +kernel
theorem lp_turn_c (hen : en_ok) (l : Launch) : ∀ d, 260 ≤ d → ∀ M, e2_MT[142]? = some M → e2_Met l M d as_l_turn_c E_lc h_lc (e2_fin rs_l_turn_c) := fun d hd M hM => e2_cal_ok (S := S_l_turn_c) (I := I_l_turn_c) (H := 250) (fuel := 4000) hen (e2_fa ((cs_c261 hen l (hands_c hen l)).mono (by decide)) e2_fz) e2_fz 0 d (by omega) 142 M hM _ _ _ _ ck_l_turn_c
def as_l_plain_c : List ev_V := [(2, 0, 0)]
noncomputable def rs_l_plain_c : e2_Rs := [((11, 0, 4294967295), h_lc)]
noncomputable def S_l_plain_c : List e2_Sm := [s_c262]
noncomputable def I_l_plain_c : List e2_In := []
set_option maxRecDepth 1000000 in
theorem ck_l_plain_c : e2_cal S_l_plain_c I_l_plain_c 4000 0 143 as_l_plain_c E_lc h_lc (e2_fin rs_l_plain_c) = true := by decide +kernel
theorem lp_plain_c (hen : en_ok) (l : Launch) : ∀ d, 260 ≤ d → ∀ M, e2_MT[143]? = some M → e2_Met l M d as_l_plain_c E_lc h_lc (e2_fin rs_l_plain_c) := fun d hd M hM => e2_cal_ok (S := S_l_plain_c) (I := I_l_plain_c) (H := 250) (fuel := 4000) hen (e2_fa ((cs_c262 hen l (hands_c hen l)).mono (by decide)) e2_fz) e2_fz 0 d (by omega) 143 M hM _ _ _ _ ck_l_plain_c
def as_l_orders_c : List ev_V := [(2, 0, 0), (11, 0, 4294967295)]
noncomputable def rs_l_orders_c : e2_Rs := [((11, 0, 4294967295), h_lc)]
noncomputable def S_l_orders_c : List e2_Sm := [s_c263]
noncomputable def I_l_orders_c : List e2_In := []
set_option maxRecDepth 1000000 in
theorem ck_l_orders_c : e2_cal S_l_orders_c I_l_orders_c 4000 0 144 as_l_orders_c E_lc h_lc (e2_fin rs_l_orders_c) = true := by decide +kernel
theorem lp_orders_c (hen : en_ok) (l : Launch) : ∀ d, 260 ≤ d → ∀ M, e2_MT[144]? = some M → e2_Met l M d as_l_orders_c E_lc h_lc (e2_fin rs_l_orders_c) := fun d hd M hM => e2_cal_ok (S := S_l_orders_c) (I := I_l_orders_c) (H := 250) (fuel := 4000) hen (e2_fa ((cs_c263 hen l (hands_c hen l)).mono (by decide)) e2_fz) e2_fz 0 d (by omega) 144 M hM _ _ _ _ ck_l_orders_c
def as_l_write_c : List ev_V := [(2, 0, 0), (11, 0, 4294967295), (11, 0, 4294967295), (11, 0, 4294967295)]
noncomputable def rs_l_write_c : e2_Rs := [((11, 0, 4294967295), h_lc)]
noncomputable def S_l_write_c : List e2_Sm := [s_c264]
noncomputable def I_l_write_c : List e2_In := []
set_option maxRecDepth 1000000 in
theorem ck_l_write_c : e2_cal S_l_write_c I_l_write_c 4000 0 145 as_l_write_c E_lc h_lc (e2_fin rs_l_write_c) = true := by decide +kernel
theorem lp_write_c (hen : en_ok) (l : Launch) : ∀ d, 260 ≤ d → ∀ M, e2_MT[145]? = some M → e2_Met l M d as_l_write_c E_lc h_lc (e2_fin rs_l_write_c) := fun d hd M hM => e2_cal_ok (S := S_l_write_c) (I := I_l_write_c) (H := 250) (fuel := 4000) hen (e2_fa ((cs_c264 hen l (hands_c hen l)).mono (by decide)) e2_fz) e2_fz 0 d (by omega) 145 M hM _ _ _ _ ck_l_write_c
def as_l_watch_c : List ev_V := [(2, 0, 0)]
noncomputable def rs_l_watch_c : e2_Rs := [((11, 0, 4294967295), h_lc)]
noncomputable def S_l_watch_c : List e2_Sm := [s_c265]
noncomputable def I_l_watch_c : List e2_In := []
set_option maxRecDepth 1000000 in
theorem ck_l_watch_c : e2_cal S_l_watch_c I_l_watch_c 4000 0 146 as_l_watch_c E_lc h_lc (e2_fin rs_l_watch_c) = true := by decide +kernel
theorem lp_watch_c (hen : en_ok) (l : Launch) : ∀ d, 260 ≤ d → ∀ M, e2_MT[146]? = some M → e2_Met l M d as_l_watch_c E_lc h_lc (e2_fin rs_l_watch_c) := fun d hd M hM => e2_cal_ok (S := S_l_watch_c) (I := I_l_watch_c) (H := 250) (fuel := 4000) hen (e2_fa ((cs_c265 hen l (hands_c hen l)).mono (by decide)) e2_fz) e2_fz 0 d (by omega) 146 M hM _ _ _ _ ck_l_watch_c
def as_l_cows_c : List ev_V := [(2, 0, 0), (11, 0, 4294967295), (11, 0, 4294967295)]
noncomputable def rs_l_cows_c : e2_Rs := [((11, 0, 4294967295), h_lc)]
noncomputable def S_l_cows_c : List e2_Sm := [s_c266]
noncomputable def I_l_cows_c : List e2_In := []
set_option maxRecDepth 1000000 in
theorem ck_l_cows_c : e2_cal S_l_cows_c I_l_cows_c 4000 0 147 as_l_cows_c E_lc h_lc (e2_fin rs_l_cows_c) = true := by decide +kernel
theorem lp_cows_c (hen : en_ok) (l : Launch) : ∀ d, 260 ≤ d → ∀ M, e2_MT[147]? = some M → e2_Met l M d as_l_cows_c E_lc h_lc (e2_fin rs_l_cows_c) := fun d hd M hM => e2_cal_ok (S := S_l_cows_c) (I := I_l_cows_c) (H := 250) (fuel := 4000) hen (e2_fa ((cs_c266 hen l (hands_c hen l)).mono (by decide)) e2_fz) e2_fz 0 d (by omega) 147 M hM _ _ _ _ ck_l_cows_c
def as_l_duel_c : List ev_V := [(2, 0, 0), (11, 0, 4294967295), (11, 0, 4294967295), (11, 0, 4294967295), (11, 0, 4294967295)]
noncomputable def rs_l_duel_c : e2_Rs := [((11, 0, 4294967295), h_lc)]
noncomputable def S_l_duel_c : List e2_Sm := [s_c267]
noncomputable def I_l_duel_c : List e2_In := []
set_option maxRecDepth 1000000 in
theorem ck_l_duel_c : e2_cal S_l_duel_c I_l_duel_c 4000 0 148 as_l_duel_c E_lc h_lc (e2_fin rs_l_duel_c) = true := by decide +kernel
theorem lp_duel_c (hen : en_ok) (l : Launch) : ∀ d, 260 ≤ d → ∀ M, e2_MT[148]? = some M → e2_Met l M d as_l_duel_c E_lc h_lc (e2_fin rs_l_duel_c) := fun d hd M hM => e2_cal_ok (S := S_l_duel_c) (I := I_l_duel_c) (H := 250) (fuel := 4000) hen (e2_fa ((cs_c267 hen l (hands_c hen l)).mono (by decide)) e2_fz) e2_fz 0 d (by omega) 148 M hM _ _ _ _ ck_l_duel_c
def as_l_lies_c : List ev_V := [(2, 0, 0), (11, 0, 4294967295)]
noncomputable def rs_l_lies_c : e2_Rs := [((11, 0, 4294967295), h_lc)]
noncomputable def S_l_lies_c : List e2_Sm := []
noncomputable def I_l_lies_c : List e2_In := [(65, 2, e2x_65), (149, 2, e2x_149)]
set_option maxRecDepth 1000000 in
theorem ck_l_lies_c : e2_cal S_l_lies_c I_l_lies_c 4000 2 149 as_l_lies_c E_lc h_lc (e2_fin rs_l_lies_c) = true := by decide +kernel
theorem lp_lies_c (hen : en_ok) (l : Launch) : ∀ d, 260 ≤ d → ∀ M, e2_MT[149]? = some M → e2_Met l M d as_l_lies_c E_lc h_lc (e2_fin rs_l_lies_c) := fun d hd M hM => e2_cal_ok (S := S_l_lies_c) (I := I_l_lies_c) (H := 250) (fuel := 4000) hen e2_fz (e2_fa ein_65 (e2_fa ein_149 e2_fz)) 2 d (by omega) 149 M hM _ _ _ _ ck_l_lies_c
def as_l_heard_c : List ev_V := [(2, 0, 0), (11, 0, 4294967295), (11, 0, 4294967295), (11, 0, 4294967295), (11, 2147483648, 2147483649)]
noncomputable def rs_l_heard_c : e2_Rs := [((11, 0, 4294967295), h_lc)]
noncomputable def S_l_heard_c : List e2_Sm := [s_c268]
noncomputable def I_l_heard_c : List e2_In := []
set_option maxRecDepth 1000000 in
theorem ck_l_heard_c : e2_cal S_l_heard_c I_l_heard_c 4000 0 150 as_l_heard_c E_lc h_lc (e2_fin rs_l_heard_c) = true := by decide +kernel
theorem lp_heard_c (hen : en_ok) (l : Launch) : ∀ d, 260 ≤ d → ∀ M, e2_MT[150]? = some M → e2_Met l M d as_l_heard_c E_lc h_lc (e2_fin rs_l_heard_c) := fun d hd M hM => e2_cal_ok (S := S_l_heard_c) (I := I_l_heard_c) (H := 250) (fuel := 4000) hen (e2_fa ((cs_c268 hen l).mono (by decide)) e2_fz) e2_fz 0 d (by omega) 150 M hM _ _ _ _ ck_l_heard_c
def as_l_untell_c : List ev_V := [(2, 0, 0), (11, 0, 4294967295)]
noncomputable def rs_l_untell_c : e2_Rs := [((11, 0, 4294967295), h_lc)]
noncomputable def S_l_untell_c : List e2_Sm := []
noncomputable def I_l_untell_c : List e2_In := [(27, 2, e2x_27), (151, 2, e2x_151)]
set_option maxRecDepth 1000000 in
theorem ck_l_untell_c : e2_cal S_l_untell_c I_l_untell_c 4000 2 151 as_l_untell_c E_lc h_lc (e2_fin rs_l_untell_c) = true := by decide +kernel
theorem lp_untell_c (hen : en_ok) (l : Launch) : ∀ d, 260 ≤ d → ∀ M, e2_MT[151]? = some M → e2_Met l M d as_l_untell_c E_lc h_lc (e2_fin rs_l_untell_c) := fun d hd M hM => e2_cal_ok (S := S_l_untell_c) (I := I_l_untell_c) (H := 250) (fuel := 4000) hen e2_fz (e2_fa ein_27 (e2_fa ein_151 e2_fz)) 2 d (by omega) 151 M hM _ _ _ _ ck_l_untell_c
def as_l_fit_c : List ev_V := [(2, 0, 0), (11, 0, 4294967295)]
noncomputable def rs_l_fit_c : e2_Rs := [((11, 0, 4294967295), h_lc)]
noncomputable def S_l_fit_c : List e2_Sm := [s_c269]
noncomputable def I_l_fit_c : List e2_In := []
set_option maxRecDepth 1000000 in
theorem ck_l_fit_c : e2_cal S_l_fit_c I_l_fit_c 4000 0 153 as_l_fit_c E_lc h_lc (e2_fin rs_l_fit_c) = true := by decide +kernel
theorem lp_fit_c (hen : en_ok) (l : Launch) : ∀ d, 260 ≤ d → ∀ M, e2_MT[153]? = some M → e2_Met l M d as_l_fit_c E_lc h_lc (e2_fin rs_l_fit_c) := fun d hd M hM => e2_cal_ok (S := S_l_fit_c) (I := I_l_fit_c) (H := 250) (fuel := 4000) hen (e2_fa ((cs_c269 hen l).mono (by decide)) e2_fz) e2_fz 0 d (by omega) 153 M hM _ _ _ _ ck_l_fit_c
def as_l_sure_c : List ev_V := [(2, 0, 0), (11, 0, 4294967295), (11, 0, 4294967295), (11, 0, 4294967295)]
noncomputable def rs_l_sure_c : e2_Rs := [((11, 0, 4294967295), h_lc)]
noncomputable def S_l_sure_c : List e2_Sm := [s_c270]
noncomputable def I_l_sure_c : List e2_In := []
set_option maxRecDepth 1000000 in
theorem ck_l_sure_c : e2_cal S_l_sure_c I_l_sure_c 4000 0 154 as_l_sure_c E_lc h_lc (e2_fin rs_l_sure_c) = true := by decide +kernel
theorem lp_sure_c (hen : en_ok) (l : Launch) : ∀ d, 260 ≤ d → ∀ M, e2_MT[154]? = some M → e2_Met l M d as_l_sure_c E_lc h_lc (e2_fin rs_l_sure_c) := fun d hd M hM => e2_cal_ok (S := S_l_sure_c) (I := I_l_sure_c) (H := 250) (fuel := 4000) hen (e2_fa ((cs_c270 hen l).mono (by decide)) e2_fz) e2_fz 0 d (by omega) 154 M hM _ _ _ _ ck_l_sure_c
def as_l_ask_c : List ev_V := [(2, 0, 0), (11, 0, 4294967295), (11, 0, 4294967295)]
noncomputable def rs_l_ask_c : e2_Rs := [((11, 0, 4294967295), h_lc)]
noncomputable def S_l_ask_c : List e2_Sm := [s_c271]
noncomputable def I_l_ask_c : List e2_In := []
set_option maxRecDepth 1000000 in
theorem ck_l_ask_c : e2_cal S_l_ask_c I_l_ask_c 4000 0 155 as_l_ask_c E_lc h_lc (e2_fin rs_l_ask_c) = true := by decide +kernel
theorem lp_ask_c (hen : en_ok) (l : Launch) : ∀ d, 260 ≤ d → ∀ M, e2_MT[155]? = some M → e2_Met l M d as_l_ask_c E_lc h_lc (e2_fin rs_l_ask_c) := fun d hd M hM => e2_cal_ok (S := S_l_ask_c) (I := I_l_ask_c) (H := 250) (fuel := 4000) hen (e2_fa ((cs_c271 hen l).mono (by decide)) e2_fz) e2_fz 0 d (by omega) 155 M hM _ _ _ _ ck_l_ask_c
def as_l_image_c : List ev_V := [(2, 0, 0), (11, 0, 4294967295)]
noncomputable def rs_l_image_c : e2_Rs := [((11, 0, 4294967295), h_lc)]
noncomputable def S_l_image_c : List e2_Sm := []
noncomputable def I_l_image_c : List e2_In := [(9, 4, e2x_9), (40, 3, e2x_40), (156, 2, e2x_156)]
set_option maxRecDepth 1000000 in
theorem ck_l_image_c : e2_cal S_l_image_c I_l_image_c 4000 3 156 as_l_image_c E_lc h_lc (e2_fin rs_l_image_c) = true := by decide +kernel
theorem lp_image_c (hen : en_ok) (l : Launch) : ∀ d, 260 ≤ d → ∀ M, e2_MT[156]? = some M → e2_Met l M d as_l_image_c E_lc h_lc (e2_fin rs_l_image_c) := fun d hd M hM => e2_cal_ok (S := S_l_image_c) (I := I_l_image_c) (H := 250) (fuel := 4000) hen e2_fz (e2_fa ein_9 (e2_fa ein_40 (e2_fa ein_156 e2_fz))) 3 d (by omega) 156 M hM _ _ _ _ ck_l_image_c
def as_l_back_c : List ev_V := [(2, 0, 0), (11, 0, 4294967295)]
noncomputable def rs_l_back_c : e2_Rs := [((11, 0, 4294967295), h_lc)]
noncomputable def S_l_back_c : List e2_Sm := []
noncomputable def I_l_back_c : List e2_In := [(3, 2, e2x_3), (9, 4, e2x_9), (41, 3, e2x_41), (100, 4, e2x_100), (157, 2, e2x_157), (159, 2, e2x_159)]
set_option maxRecDepth 1000000 in
theorem ck_l_back_c : e2_cal S_l_back_c I_l_back_c 4000 3 157 as_l_back_c E_lc h_lc (e2_fin rs_l_back_c) = true := by decide +kernel
theorem lp_back_c (hen : en_ok) (l : Launch) : ∀ d, 260 ≤ d → ∀ M, e2_MT[157]? = some M → e2_Met l M d as_l_back_c E_lc h_lc (e2_fin rs_l_back_c) := fun d hd M hM => e2_cal_ok (S := S_l_back_c) (I := I_l_back_c) (H := 250) (fuel := 4000) hen e2_fz (e2_fa ein_3 (e2_fa ein_9 (e2_fa ein_41 (e2_fa ein_100 (e2_fa ein_157 (e2_fa ein_159 e2_fz)))))) 3 d (by omega) 157 M hM _ _ _ _ ck_l_back_c
def as_l_about_c : List ev_V := [(2, 0, 0), (11, 0, 4294967295)]
noncomputable def rs_l_about_c : e2_Rs := [((11, 0, 4294967295), h_lc)]
noncomputable def S_l_about_c : List e2_Sm := [s_c272]
noncomputable def I_l_about_c : List e2_In := []
set_option maxRecDepth 1000000 in
theorem ck_l_about_c : e2_cal S_l_about_c I_l_about_c 4000 0 158 as_l_about_c E_lc h_lc (e2_fin rs_l_about_c) = true := by decide +kernel
theorem lp_about_c (hen : en_ok) (l : Launch) : ∀ d, 260 ≤ d → ∀ M, e2_MT[158]? = some M → e2_Met l M d as_l_about_c E_lc h_lc (e2_fin rs_l_about_c) := fun d hd M hM => e2_cal_ok (S := S_l_about_c) (I := I_l_about_c) (H := 250) (fuel := 4000) hen (e2_fa ((cs_c272 hen l).mono (by decide)) e2_fz) e2_fz 0 d (by omega) 158 M hM _ _ _ _ ck_l_about_c
