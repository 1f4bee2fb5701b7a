/-! PUBLIC CALLS a, printed by a program -/
def E_la : e2_E := [(2147483648, 2147583648, 0, 0), (2147483652, 2147483668, 1, 0)]
def lac0 : ev_C := (9, [(2, 1, 0), (2, 36, 0), (2, 47, 0), (2, 59, 0), (2, 44, 0), (2, 77, 0), (2, 40, 0), (2, 33, 0), (2, 17, 0)])
def lac1 : ev_C := (228, [])
def lan0 : e2_Q1 := (lac0, lac1)
def lac2 : ev_C := (50, [(11, 2147483647, 2147483655), (11, 2147483647, 2147483655), (11, 2147483647, 2147483655)])
def lac3 : ev_C := (999, [])
def lan1 : e2_Q1 := (lac2, lac3)
def lan2 : e2_Q2 := (lan0, lan1)
def lac4 : ev_C := (54, [(0, 31, 0), (11, 0, 4294967295)])
def lan3 : e2_Q1 := (lac4, lac3)
def lac5 : ev_C := (196, [])
def lan4 : e2_Q1 := (lac5, lac3)
def lan5 : e2_Q2 := (lan3, lan4)
def lan6 : e2_Q3 := (lan2, lan5)
def lac6 : ev_C := (54, [(0, 30, 0), (11, 0, 4294967295)])
def lan7 : e2_Q1 := (lac6, lac3)
def lan8 : e2_Q2 := (lan3, lan7)
def lac7 : ev_C := (54, [(0, 160, 0), (11, 0, 4294967295)])
def lan9 : e2_Q1 := (lac7, lac3)
def lac8 : ev_C := (212, [])
def lan10 : e2_Q1 := (lac8, lac3)
def lan11 : e2_Q2 := (lan9, lan10)
def lan12 : e2_Q3 := (lan8, lan11)
def lan13 : e2_Q4 := (lan6, lan12)
def lac9 : ev_C := (54, [(0, 8, 0), (11, 0, 4294967295)])
def lan14 : e2_Q1 := (lac9, lac3)
def lac10 : ev_C := (54, [(0, 189, 0), (11, 0, 4294967295)])
def lan15 : e2_Q1 := (lac10, lac3)
def lan16 : e2_Q2 := (lan14, lan15)
def lac11 : ev_C := (6, [(11, 0, 4294967295), (11, 0, 4294967295), (11, 0, 4294967295), (2, 42, 0), (2, 41, 0), (2, 43, 0)])
def lan17 : e2_Q1 := (lac11, lac3)
def lac12 : ev_C := (204, [])
def lan18 : e2_Q1 := (lac12, lac3)
def lan19 : e2_Q2 := (lan17, lan18)
def lan20 : e2_Q3 := (lan16, lan19)
def lac13 : ev_C := (188, [])
def lan21 : e2_Q1 := (lac13, lac3)
def lan22 : e2_Q2 := (lan14, lan21)
def lac14 : ev_C := (220, [])
def lan23 : e2_Q1 := (lac14, lac3)
def lan24 : e2_Q2 := (lan14, lan23)
def lan25 : e2_Q3 := (lan22, lan24)
def lan26 : e2_Q4 := (lan20, lan25)
def lan27 : e2_Q5 := (lan13, lan26)
def lac15 : ev_C := (53, [(0, 8, 0)])
def lac16 : ev_C := (232, [])
def lan28 : e2_Q1 := (lac15, lac16)
def lac17 : ev_C := (54, [(0, 21, 0), (11, 2147483648, 2147483668)])
def lan29 : e2_Q1 := (lac17, lac3)
def lan30 : e2_Q2 := (lan28, lan29)
def lac18 : ev_C := (6, [(11, 0, 4294967295), (11, 0, 4294967295), (11, 0, 4294967295), (2, 38, 0), (2, 37, 0), (2, 39, 0)])
def lan31 : e2_Q1 := (lac18, lac3)
def lac19 : ev_C := (200, [])
def lan32 : e2_Q1 := (lac19, lac3)
def lan33 : e2_Q2 := (lan31, lan32)
def lan34 : e2_Q3 := (lan30, lan33)
def lan35 : e2_Q1 := (lac15, lac3)
def lac20 : ev_C := (184, [])
def lan36 : e2_Q1 := (lac20, lac3)
def lan37 : e2_Q2 := (lan35, lan36)
def lac21 : ev_C := (216, [])
def lan38 : e2_Q1 := (lac21, lac3)
def lan39 : e2_Q2 := (lan15, lan38)
def lan40 : e2_Q3 := (lan37, lan39)
def lan41 : e2_Q4 := (lan34, lan40)
def lac22 : ev_C := (54, [(0, 300, 0), (11, 0, 4294967295)])
def lan42 : e2_Q1 := (lac22, lac3)
def lac23 : ev_C := (54, [(0, 20, 0), (11, 2147483648, 2147483655)])
def lan43 : e2_Q1 := (lac23, lac3)
def lan44 : e2_Q2 := (lan42, lan43)
def lac24 : ev_C := (2, [(11, 0, 4294967295), (2, 45, 0), (11, 0, 4294967295), (11, 0, 4294967295), (2, 46, 0), (11, 0, 4294967295)])
def lan45 : e2_Q1 := (lac24, lac3)
def lac25 : ev_C := (208, [])
def lan46 : e2_Q1 := (lac25, lac3)
def lan47 : e2_Q2 := (lan45, lan46)
def lan48 : e2_Q3 := (lan44, lan47)
def lac26 : ev_C := (192, [])
def lan49 : e2_Q1 := (lac26, lac3)
def lan50 : e2_Q2 := (lan42, lan49)
def lac27 : ev_C := (54, [(0, 20, 0), (11, 0, 4294967295)])
def lan51 : e2_Q1 := (lac27, lac3)
def lac28 : ev_C := (224, [])
def lan52 : e2_Q1 := (lac28, lac3)
def lan53 : e2_Q2 := (lan51, lan52)
def lan54 : e2_Q3 := (lan50, lan53)
def lan55 : e2_Q4 := (lan48, lan54)
def lan56 : e2_Q5 := (lan41, lan55)
def lan57 : e2_Q6 := (lan27, lan56)
def lac29 : ev_C := (53, [(0, 4, 0)])
def lac30 : ev_C := (230, [])
def lan58 : e2_Q1 := (lac29, lac30)
def lan59 : e2_Q2 := (lan58, lan9)
def lac31 : ev_C := (7, [(11, 2147483648, 2147485248), (2, 35, 0), (11, 2147483648, 2147485248), (11, 2147483520, 2147483775), (11, 2147483648, 2147485248), (11, 0, 4294967295), (5, 0, 0), (11, 2147482048, 2147485248)])
def lan60 : e2_Q1 := (lac31, lac3)
def lac32 : ev_C := (198, [])
def lan61 : e2_Q1 := (lac32, lac3)
def lan62 : e2_Q2 := (lan60, lan61)
def lan63 : e2_Q3 := (lan59, lan62)
def lan64 : e2_Q1 := (lac29, lac3)
def lac33 : ev_C := (54, [(0, 16, 0), (11, 0, 4294967295)])
def lan65 : e2_Q1 := (lac33, lac3)
def lan66 : e2_Q2 := (lan64, lan65)
def lac34 : ev_C := (214, [])
def lan67 : e2_Q1 := (lac34, lac3)
def lan68 : e2_Q2 := (lan29, lan67)
def lan69 : e2_Q3 := (lan66, lan68)
def lan70 : e2_Q4 := (lan63, lan69)
def lan71 : e2_Q2 := (lan14, lan14)
def lac35 : ev_C := (206, [])
def lan72 : e2_Q1 := (lac35, lac3)
def lan73 : e2_Q2 := (lan51, lan72)
def lan74 : e2_Q3 := (lan71, lan73)
def lac36 : ev_C := (190, [])
def lan75 : e2_Q1 := (lac36, lac3)
def lan76 : e2_Q2 := (lan14, lan75)
def lac37 : ev_C := (222, [])
def lan77 : e2_Q1 := (lac37, lac3)
def lan78 : e2_Q2 := (lan43, lan77)
def lan79 : e2_Q3 := (lan76, lan78)
def lan80 : e2_Q4 := (lan74, lan79)
def lan81 : e2_Q5 := (lan70, lan80)
def lac38 : ev_C := (58, [(11, 2147483648, 2147483654), (11, 2147483648, 2147483654), (11, 2147483648, 2147483654), (11, 2147483648, 2147483654), (11, 2147483648, 2147483654), (11, 2147483648, 2147483654), (11, 2147483648, 2147483654), (11, 2147483648, 2147483654)])
def lan82 : e2_Q1 := (lac38, lac3)
def lan83 : e2_Q2 := (lan82, lan15)
def lac39 : ev_C := (202, [])
def lan84 : e2_Q1 := (lac39, lac3)
def lan85 : e2_Q2 := (lan51, lan84)
def lan86 : e2_Q3 := (lan83, lan85)
def lac40 : ev_C := (50, [(11, 2147483648, 2147483654), (11, 2147483648, 2147483654), (11, 2147483648, 2147483654), (11, 2147483648, 2147483654), (11, 2147483648, 2147483654), (11, 2147483648, 2147483654), (11, 2147483648, 2147483654), (11, 2147483648, 2147483654)])
def lan87 : e2_Q1 := (lac40, lac3)
def lac41 : ev_C := (186, [])
def lan88 : e2_Q1 := (lac41, lac3)
def lan89 : e2_Q2 := (lan87, lan88)
def lac42 : ev_C := (218, [])
def lan90 : e2_Q1 := (lac42, lac3)
def lan91 : e2_Q2 := (lan15, lan90)
def lan92 : e2_Q3 := (lan89, lan91)
def lan93 : e2_Q4 := (lan86, lan92)
def lac43 : ev_C := (0, [(2, 15, 0), (2, 16, 0), (11, 0, 4294967295), (11, 2147483648, 2147483948)])
def lan94 : e2_Q1 := (lac43, lac3)
def lan95 : e2_Q2 := (lan94, lan7)
def lac44 : ev_C := (54, [(0, 81, 0), (11, 0, 4294967295)])
def lan96 : e2_Q1 := (lac44, lac3)
def lac45 : ev_C := (210, [])
def lan97 : e2_Q1 := (lac45, lac3)
def lan98 : e2_Q2 := (lan96, lan97)
def lan99 : e2_Q3 := (lan95, lan98)
def lac46 : ev_C := (0, [(2, 31, 0), (2, 32, 0), (11, 0, 4294967295), (11, 2147483648, 2147483948)])
def lan100 : e2_Q1 := (lac46, lac3)
def lac47 : ev_C := (194, [])
def lan101 : e2_Q1 := (lac47, lac3)
def lan102 : e2_Q2 := (lan100, lan101)
def lac48 : ev_C := (226, [])
def lan103 : e2_Q1 := (lac48, lac3)
def lan104 : e2_Q2 := (lan14, lan103)
def lan105 : e2_Q3 := (lan102, lan104)
def lan106 : e2_Q4 := (lan99, lan105)
def lan107 : e2_Q5 := (lan93, lan106)
def lan108 : e2_Q6 := (lan81, lan107)
def lan109 : e2_Q7 := (lan57, lan108)
def lac49 : ev_C := (8, [(1, 1, 4294967296), (11, 2147483648, 2147483656), (11, 0, 4294967295), (2, 3, 0), (2, 9, 0), (2, 10, 0), (11, 2147483648, 2147483652), (11, 0, 4294967295), (11, 0, 4294967295), (11, 0, 4294967295), (2, 11, 0), (2, 14, 0), (2, 2, 0), (2, 4, 0), (2, 5, 0), (2, 6, 0), (2, 7, 0), (2, 8, 0)])
def lac50 : ev_C := (229, [])
def lan110 : e2_Q1 := (lac49, lac50)
def lac51 : ev_C := (5, [(2, 68, 0), (11, 0, 4294967295), (2, 69, 0), (2, 72, 0), (7, 0, 0), (2, 70, 0), (11, 2147483648, 2147483649), (2, 67, 0), (11, 2147483648, 2147483668), (2, 71, 0), (2, 66, 0), (2, 73, 0), (2, 74, 0), (2, 75, 0), (2, 76, 0)])
def lan111 : e2_Q1 := (lac51, lac3)
def lan112 : e2_Q2 := (lan110, lan111)
def lac52 : ev_C := (3, [(2, 34, 0), (7, 0, 0), (11, 2147483648, 2147485248), (11, 2147483648, 2147483649), (11, 0, 4294967295), (11, 0, 4294967295), (11, 0, 4294967295), (11, 0, 4294967295)])
def lan113 : e2_Q1 := (lac52, lac3)
def lac53 : ev_C := (197, [])
def lan114 : e2_Q1 := (lac53, lac3)
def lan115 : e2_Q2 := (lan113, lan114)
def lan116 : e2_Q3 := (lan112, lan115)
def lac54 : ev_C := (8, [(11, 2147483652, 2147483668), (11, 2147483648, 2147483656), (11, 0, 4294967295), (2, 19, 0), (2, 25, 0), (2, 26, 0), (11, 2147483648, 2147483652), (11, 0, 4294967295), (11, 0, 4294967295), (11, 0, 4294967295), (2, 27, 0), (2, 30, 0), (2, 18, 0), (2, 20, 0), (2, 21, 0), (2, 22, 0), (2, 23, 0), (2, 24, 0)])
def lan117 : e2_Q1 := (lac54, lac3)
def lan118 : e2_Q2 := (lan117, lan7)
def lac55 : ev_C := (54, [(0, 6, 0), (11, 0, 4294967295)])
def lan119 : e2_Q1 := (lac55, lac3)
def lac56 : ev_C := (213, [])
def lan120 : e2_Q1 := (lac56, lac3)
def lan121 : e2_Q2 := (lan119, lan120)
def lan122 : e2_Q3 := (lan118, lan121)
def lan123 : e2_Q4 := (lan116, lan122)
def lac57 : ev_C := (54, [(0, 4, 0), (11, 0, 4294967295)])
def lan124 : e2_Q1 := (lac57, lac3)
def lac58 : ev_C := (205, [])
def lan125 : e2_Q1 := (lac58, lac3)
def lan126 : e2_Q2 := (lan124, lan125)
def lan127 : e2_Q3 := (lan71, lan126)
def lac59 : ev_C := (189, [])
def lan128 : e2_Q1 := (lac59, lac3)
def lan129 : e2_Q2 := (lan14, lan128)
def lac60 : ev_C := (54, [(0, 20, 0), (11, 2147483648, 2147483667)])
def lan130 : e2_Q1 := (lac60, lac3)
def lac61 : ev_C := (221, [])
def lan131 : e2_Q1 := (lac61, lac3)
def lan132 : e2_Q2 := (lan130, lan131)
def lan133 : e2_Q3 := (lan129, lan132)
def lan134 : e2_Q4 := (lan127, lan133)
def lan135 : e2_Q5 := (lan123, lan134)
def lac62 : ev_C := (54, [(0, 21, 0), (11, 0, 4294967295)])
def lan136 : e2_Q1 := (lac62, lac3)
def lan137 : e2_Q2 := (lan14, lan136)
def lac63 : ev_C := (201, [])
def lan138 : e2_Q1 := (lac63, lac3)
def lan139 : e2_Q2 := (lan124, lan138)
def lan140 : e2_Q3 := (lan137, lan139)
def lac64 : ev_C := (185, [])
def lan141 : e2_Q1 := (lac64, lac3)
def lan142 : e2_Q2 := (lan14, lan141)
def lac65 : ev_C := (54, [(0, 189, 0), (11, 2147483647, 2147483655)])
def lan143 : e2_Q1 := (lac65, lac3)
def lac66 : ev_C := (217, [])
def lan144 : e2_Q1 := (lac66, lac3)
def lan145 : e2_Q2 := (lan143, lan144)
def lan146 : e2_Q3 := (lan142, lan145)
def lan147 : e2_Q4 := (lan140, lan146)
def lac67 : ev_C := (1, [(2, 82, 0), (11, 2147483648, 2147483652), (11, 2147483648, 2147483678), (1, 0, 4294967296), (2, 78, 0), (2, 79, 0), (2, 80, 0), (2, 81, 0)])
def lan148 : e2_Q1 := (lac67, lac3)
def lan149 : e2_Q2 := (lan3, lan148)
def lac68 : ev_C := (54, [(0, 1107, 0), (11, 0, 4294967295)])
def lan150 : e2_Q1 := (lac68, lac3)
def lac69 : ev_C := (209, [])
def lan151 : e2_Q1 := (lac69, lac3)
def lan152 : e2_Q2 := (lan150, lan151)
def lan153 : e2_Q3 := (lan149, lan152)
def lac70 : ev_C := (193, [])
def lan154 : e2_Q1 := (lac70, lac3)
def lan155 : e2_Q2 := (lan3, lan154)
def lac71 : ev_C := (225, [])
def lan156 : e2_Q1 := (lac71, lac3)
def lan157 : e2_Q2 := (lan51, lan156)
def lan158 : e2_Q3 := (lan155, lan157)
def lan159 : e2_Q4 := (lan153, lan158)
def lan160 : e2_Q5 := (lan147, lan159)
def lan161 : e2_Q6 := (lan135, lan160)
def lac72 : ev_C := (231, [])
def lan162 : e2_Q1 := (lac57, lac72)
def lan163 : e2_Q2 := (lan162, lan119)
def lac73 : ev_C := (55, [(0, 1600, 0), (11, 2147483520, 2147483775)])
def lan164 : e2_Q1 := (lac73, lac3)
def lac74 : ev_C := (199, [])
def lan165 : e2_Q1 := (lac74, lac3)
def lan166 : e2_Q2 := (lan164, lan165)
def lan167 : e2_Q3 := (lan163, lan166)
def lac75 : ev_C := (183, [])
def lan168 : e2_Q1 := (lac75, lac3)
def lan169 : e2_Q2 := (lan124, lan168)
def lac76 : ev_C := (215, [])
def lan170 : e2_Q1 := (lac76, lac3)
def lan171 : e2_Q2 := (lan136, lan170)
def lan172 : e2_Q3 := (lan169, lan171)
def lan173 : e2_Q4 := (lan167, lan172)
def lac77 : ev_C := (0, [(2, 12, 0), (2, 13, 0), (11, 0, 4294967295), (11, 2147483648, 2147483948)])
def lan174 : e2_Q1 := (lac77, lac3)
def lan175 : e2_Q2 := (lan174, lan130)
def lac78 : ev_C := (207, [])
def lan176 : e2_Q1 := (lac78, lac3)
def lan177 : e2_Q2 := (lan119, lan176)
def lan178 : e2_Q3 := (lan175, lan177)
def lac79 : ev_C := (0, [(2, 28, 0), (2, 29, 0), (11, 0, 4294967295), (11, 2147483648, 2147483948)])
def lan179 : e2_Q1 := (lac79, lac3)
def lac80 : ev_C := (191, [])
def lan180 : e2_Q1 := (lac80, lac3)
def lan181 : e2_Q2 := (lan179, lan180)
def lac81 : ev_C := (4, [(2, 65, 0), (2, 63, 0), (7, 0, 0), (11, 0, 4294967295), (2, 62, 0), (11, 0, 4294967295), (11, 2147483648, 2147483668), (2, 60, 0), (11, 2147483648, 2147483668), (11, 0, 4294967295), (11, 0, 4294967295), (2, 61, 0), (2, 64, 0), (11, 2147483648, 2147483651)])
def lan182 : e2_Q1 := (lac81, lac3)
def lac82 : ev_C := (223, [])
def lan183 : e2_Q1 := (lac82, lac3)
def lan184 : e2_Q2 := (lan182, lan183)
def lan185 : e2_Q3 := (lan181, lan184)
def lan186 : e2_Q4 := (lan178, lan185)
def lan187 : e2_Q5 := (lan173, lan186)
def lac83 : ev_C := (54, [(0, 8, 0), (11, 2147483648, 2147483651)])
def lan188 : e2_Q1 := (lac83, lac3)
def lan189 : e2_Q2 := (lan188, lan143)
def lac84 : ev_C := (203, [])
def lan190 : e2_Q1 := (lac84, lac3)
def lan191 : e2_Q2 := (lan119, lan190)
def lan192 : e2_Q3 := (lan189, lan191)
def lac85 : ev_C := (187, [])
def lan193 : e2_Q1 := (lac85, lac3)
def lan194 : e2_Q2 := (lan188, lan193)
def lac86 : ev_C := (219, [])
def lan195 : e2_Q1 := (lac86, lac3)
def lan196 : e2_Q2 := (lan14, lan195)
def lan197 : e2_Q3 := (lan194, lan196)
def lan198 : e2_Q4 := (lan192, lan197)
def lac87 : ev_C := (56, [(0, 30, 0), (11, 2147483648, 2147483649)])
def lan199 : e2_Q1 := (lac87, lac3)
def lan200 : e2_Q2 := (lan42, lan199)
def lac88 : ev_C := (5, [(2, 50, 0), (11, 0, 4294967295), (2, 51, 0), (2, 54, 0), (7, 0, 0), (2, 52, 0), (11, 2147483648, 2147483649), (2, 49, 0), (11, 2147483648, 2147483668), (2, 53, 0), (2, 48, 0), (2, 55, 0), (2, 56, 0), (2, 57, 0), (2, 58, 0)])
def lan201 : e2_Q1 := (lac88, lac3)
def lac89 : ev_C := (211, [])
def lan202 : e2_Q1 := (lac89, lac3)
def lan203 : e2_Q2 := (lan201, lan202)
def lan204 : e2_Q3 := (lan200, lan203)
def lac90 : ev_C := (195, [])
def lan205 : e2_Q1 := (lac90, lac3)
def lan206 : e2_Q2 := (lan42, lan205)
def lac91 : ev_C := (54, [(0, 256, 0), (11, 0, 4294967295)])
def lan207 : e2_Q1 := (lac91, lac3)
def lac92 : ev_C := (227, [])
def lan208 : e2_Q1 := (lac92, lac3)
def lan209 : e2_Q2 := (lan207, lan208)
def lan210 : e2_Q3 := (lan206, lan209)
def lan211 : e2_Q4 := (lan204, lan210)
def lan212 : e2_Q5 := (lan198, lan211)
def lan213 : e2_Q6 := (lan187, lan212)
def lan214 : e2_Q7 := (lan161, lan213)
def lan215 : e2_Q8 := (lan109, lan214)
noncomputable def h_la : ev_H := (lan215 : e2_Q8)
def lan216 : e2_Q2 := (lan87, lan15)
def lan217 : e2_Q3 := (lan216, lan85)
def lan218 : e2_Q4 := (lan217, lan92)
def lan219 : e2_Q5 := (lan218, lan106)
def lan220 : e2_Q6 := (lan81, lan219)
def lan221 : e2_Q7 := (lan57, lan220)
def lac93 : ev_C := (8, [(11, 2147483652, 2147483668), (11, 2147483648, 2147483656), (11, 0, 4294967295), (2, 3, 0), (2, 9, 0), (2, 10, 0), (11, 2147483648, 2147483652), (11, 0, 4294967295), (11, 0, 4294967295), (11, 0, 4294967295), (2, 11, 0), (2, 14, 0), (2, 2, 0), (2, 4, 0), (2, 5, 0), (2, 6, 0), (2, 7, 0), (2, 8, 0)])
def lan222 : e2_Q1 := (lac93, lac50)
def lan223 : e2_Q2 := (lan222, lan111)
def lan224 : e2_Q3 := (lan223, lan115)
def lan225 : e2_Q4 := (lan224, lan122)
def lan226 : e2_Q5 := (lan225, lan134)
def lan227 : e2_Q6 := (lan226, lan160)
def lan228 : e2_Q7 := (lan227, lan213)
def lan229 : e2_Q8 := (lan221, lan228)
noncomputable def h_wa : ev_H := (lan229 : e2_Q8)
def as_l_feed_a : List ev_V := [(2, 0, 0), (11, 0, 4294967295), (11, 0, 4294967295), (11, 0, 4294967295), (11, 0, 4294967295), (11, 0, 4294967295)]
noncomputable def rs_l_feed_a : e2_Rs := [((11, 0, 4294967295), h_la)]
noncomputable def S_l_feed_a : List e2_Sm := [s_a243]
noncomputable def I_l_feed_a : List e2_In := []
set_option maxRecDepth 1000000 in
theorem ck_l_feed_a : e2_cal S_l_feed_a I_l_feed_a 4000 0 123 as_l_feed_a E_la h_la (e2_fin rs_l_feed_a) = true := by decide +kernel
theorem lp_feed_a (hen : en_ok) (l : Launch) : ∀ d, 260 ≤ d → ∀ M, e2_MT[123]? = some M → e2_Met l M d as_l_feed_a E_la h_la (e2_fin rs_l_feed_a) := fun d hd M hM => e2_cal_ok (S := S_l_feed_a) (I := I_l_feed_a) (H := 250) (fuel := 4000) hen (e2_fa ((cs_a243 hen l).mono (by decide)) e2_fz) e2_fz 0 d (by omega) 123 M hM _ _ _ _ ck_l_feed_a
def as_l_end_a : List ev_V := [(2, 0, 0), (11, 0, 4294967295)]
noncomputable def rs_l_end_a : e2_Rs := [((11, 0, 4294967295), h_la)]
noncomputable def S_l_end_a : List e2_Sm := []
noncomputable def I_l_end_a : List e2_In := [(106, 2, e2x_106), (124, 2, e2x_124)]
set_option maxRecDepth 1000000 in
theorem ck_l_end_a : e2_cal S_l_end_a I_l_end_a 4000 2 124 as_l_end_a E_la h_la (e2_fin rs_l_end_a) = true := by decide +kernel
theorem lp_end_a (hen : en_ok) (l : Launch) : ∀ d, 260 ≤ d → ∀ M, e2_MT[124]? = some M → e2_Met l M d as_l_end_a E_la h_la (e2_fin rs_l_end_a) := fun d hd M hM => e2_cal_ok (S := S_l_end_a) (I := I_l_end_a) (H := 250) (fuel := 4000) hen e2_fz (e2_fa ein_106 (e2_fa ein_124 e2_fz)) 2 d (by omega) 124 M hM _ _ _ _ ck_l_end_a
def lac94 : ev_C := (3, [(2, 34, 0), (2, 17, 0), (11, 2147483648, 2147485248), (11, 2147483648, 2147483649), (11, 0, 4294967295), (11, 0, 4294967295), (11, 0, 4294967295), (11, 0, 4294967295)])
def lan230 : e2_Q1 := (lac94, lac3)
def lan231 : e2_Q2 := (lan230, lan114)
def lan232 : e2_Q3 := (lan112, lan231)
def lan233 : e2_Q4 := (lan232, lan122)
def lan234 : e2_Q5 := (lan233, lan134)
def lan235 : e2_Q6 := (lan234, lan160)
def lan236 : e2_Q7 := (lan235, lan213)
def lan237 : e2_Q8 := (lan109, lan236)
noncomputable def h_lam0 : ev_H := (lan237 : e2_Q8)
def lac95 : ev_C := (9, [(2, 17, 0), (2, 36, 0), (2, 47, 0), (2, 59, 0), (2, 44, 0), (2, 77, 0), (2, 40, 0), (2, 33, 0), (2, 1, 0)])
def lan238 : e2_Q1 := (lac95, lac1)
def lan239 : e2_Q2 := (lan238, lan1)
def lan240 : e2_Q3 := (lan239, lan5)
def lan241 : e2_Q4 := (lan240, lan12)
def lan242 : e2_Q5 := (lan241, lan26)
def lan243 : e2_Q6 := (lan242, lan56)
def lan244 : e2_Q7 := (lan243, lan108)
def lan245 : e2_Q8 := (lan244, lan236)
noncomputable def h_lam1 : ev_H := (lan245 : e2_Q8)
def as_l_meadow_a : List ev_V := [(2, 0, 0)]
noncomputable def rs_l_meadow_a : e2_Rs := [((11, 0, 4294967295), h_lam0), ((11, 0, 4294967295), h_lam1)]
noncomputable def S_l_meadow_a : List e2_Sm := [s_a244]
noncomputable def I_l_meadow_a : List e2_In := []
set_option maxRecDepth 1000000 in
theorem ck_l_meadow_a : e2_cal S_l_meadow_a I_l_meadow_a 4000 0 125 as_l_meadow_a E_la h_la (e2_fin rs_l_meadow_a) = true := by decide +kernel
theorem lp_meadow_a (hen : en_ok) (l : Launch) : ∀ d, 260 ≤ d → ∀ M, e2_MT[125]? = some M → e2_Met l M d as_l_meadow_a E_la h_la (e2_fin rs_l_meadow_a) := fun d hd M hM => e2_cal_ok (S := S_l_meadow_a) (I := I_l_meadow_a) (H := 250) (fuel := 4000) hen (e2_fa ((cs_a244 hen l (hands_a hen l)).mono (by decide)) e2_fz) e2_fz 0 d (by omega) 125 M hM _ _ _ _ ck_l_meadow_a
def as_l_fault_a : List ev_V := [(2, 0, 0), (11, 0, 4294967295)]
noncomputable def rs_l_fault_a : e2_Rs := [((11, 0, 4294967295), h_la)]
noncomputable def S_l_fault_a : List e2_Sm := []
noncomputable def I_l_fault_a : List e2_In := [(126, 2, e2x_126)]
set_option maxRecDepth 1000000 in
theorem ck_l_fault_a : e2_cal S_l_fault_a I_l_fault_a 4000 1 126 as_l_fault_a E_la h_la (e2_fin rs_l_fault_a) = true := by decide +kernel
theorem lp_fault_a (hen : en_ok) (l : Launch) : ∀ d, 260 ≤ d → ∀ M, e2_MT[126]? = some M → e2_Met l M d as_l_fault_a E_la h_la (e2_fin rs_l_fault_a) := fun d hd M hM => e2_cal_ok (S := S_l_fault_a) (I := I_l_fault_a) (H := 250) (fuel := 4000) hen e2_fz (e2_fa ein_126 e2_fz) 1 d (by omega) 126 M hM _ _ _ _ ck_l_fault_a
def as_l_thing_a : List ev_V := [(2, 0, 0), (11, 0, 4294967295)]
noncomputable def rs_l_thing_a : e2_Rs := [((11, 0, 4294967295), h_la)]
noncomputable def S_l_thing_a : List e2_Sm := []
noncomputable def I_l_thing_a : List e2_In := [(127, 2, e2x_127), (161, 2, e2x_161)]
set_option maxRecDepth 1000000 in
theorem ck_l_thing_a : e2_cal S_l_thing_a I_l_thing_a 4000 2 127 as_l_thing_a E_la h_la (e2_fin rs_l_thing_a) = true := by decide +kernel
theorem lp_thing_a (hen : en_ok) (l : Launch) : ∀ d, 260 ≤ d → ∀ M, e2_MT[127]? = some M → e2_Met l M d as_l_thing_a E_la h_la (e2_fin rs_l_thing_a) := fun d hd M hM => e2_cal_ok (S := S_l_thing_a) (I := I_l_thing_a) (H := 250) (fuel := 4000) hen e2_fz (e2_fa ein_127 (e2_fa ein_161 e2_fz)) 2 d (by omega) 127 M hM _ _ _ _ ck_l_thing_a
def as_l_glyph_a : List ev_V := [(2, 0, 0), (11, 0, 4294967295), (11, 0, 4294967295)]
noncomputable def rs_l_glyph_a : e2_Rs := [((11, 0, 4294967295), h_la)]
noncomputable def S_l_glyph_a : List e2_Sm := [s_a247]
noncomputable def I_l_glyph_a : List e2_In := []
set_option maxRecDepth 1000000 in
theorem ck_l_glyph_a : e2_cal S_l_glyph_a I_l_glyph_a 4000 0 128 as_l_glyph_a E_la h_la (e2_fin rs_l_glyph_a) = true := by decide +kernel
theorem lp_glyph_a (hen : en_ok) (l : Launch) : ∀ d, 260 ≤ d → ∀ M, e2_MT[128]? = some M → e2_Met l M d as_l_glyph_a E_la h_la (e2_fin rs_l_glyph_a) := fun d hd M hM => e2_cal_ok (S := S_l_glyph_a) (I := I_l_glyph_a) (H := 250) (fuel := 4000) hen (e2_fa ((cs_a247 hen l (hands_a hen l)).mono (by decide)) e2_fz) e2_fz 0 d (by omega) 128 M hM _ _ _ _ ck_l_glyph_a
def as_l_plot_a : List ev_V := [(2, 0, 0), (11, 0, 4294967295), (11, 0, 4294967295)]
noncomputable def rs_l_plot_a : e2_Rs := [((11, 0, 4294967295), h_la)]
noncomputable def S_l_plot_a : List e2_Sm := [s_a248]
noncomputable def I_l_plot_a : List e2_In := []
set_option maxRecDepth 1000000 in
theorem ck_l_plot_a : e2_cal S_l_plot_a I_l_plot_a 4000 0 129 as_l_plot_a E_la h_la (e2_fin rs_l_plot_a) = true := by decide +kernel
theorem lp_plot_a (hen : en_ok) (l : Launch) : ∀ d, 260 ≤ d → ∀ M, e2_MT[129]? = some M → e2_Met l M d as_l_plot_a E_la h_la (e2_fin rs_l_plot_a) := fun d hd M hM => e2_cal_ok (S := S_l_plot_a) (I := I_l_plot_a) (H := 250) (fuel := 4000) hen (e2_fa ((cs_a248 hen l (hands_a hen l)).mono (by decide)) e2_fz) e2_fz 0 d (by omega) 129 M hM _ _ _ _ ck_l_plot_a
def as_l_mow_a : List ev_V := [(2, 0, 0), (11, 0, 4294967295)]
noncomputable def rs_l_mow_a : e2_Rs := [((11, 0, 4294967295), h_la)]
noncomputable def S_l_mow_a : List e2_Sm := []
noncomputable def I_l_mow_a : List e2_In := [(9, 4, e2x_9), (35, 2, e2x_35), (36, 1, e2x_36), (101, 2, e2x_101), (130, 2, e2x_130), (163, 2, e2x_163), (291, 1, e2x_291)]
set_option maxRecDepth 1000000 in
theorem ck_l_mow_a : e2_cal S_l_mow_a I_l_mow_a 4000 3 130 as_l_mow_a E_la h_la (e2_fin rs_l_mow_a) = true := by decide +kernel
theorem lp_mow_a (hen : en_ok) (l : Launch) : ∀ d, 260 ≤ d → ∀ M, e2_MT[130]? = some M → e2_Met l M d as_l_mow_a E_la h_la (e2_fin rs_l_mow_a) := fun d hd M hM => e2_cal_ok (S := S_l_mow_a) (I := I_l_mow_a) (H := 250) (fuel := 4000) hen e2_fz (e2_fa ein_9 (e2_fa ein_35 (e2_fa ein_36 (e2_fa ein_101 (e2_fa ein_130 (e2_fa ein_163 (e2_fa ein_291 e2_fz))))))) 3 d (by omega) 130 M hM _ _ _ _ ck_l_mow_a
def as_l_sow_a : List ev_V := [(2, 0, 0), (11, 0, 4294967295)]
noncomputable def rs_l_sow_a : e2_Rs := [((11, 0, 4294967295), h_la)]
noncomputable def S_l_sow_a : List e2_Sm := []
noncomputable def I_l_sow_a : List e2_In := [(9, 4, e2x_9), (35, 2, e2x_35), (36, 1, e2x_36), (131, 2, e2x_131), (159, 2, e2x_159), (163, 2, e2x_163), (291, 1, e2x_291)]
set_option maxRecDepth 1000000 in
theorem ck_l_sow_a : e2_cal S_l_sow_a I_l_sow_a 4000 3 131 as_l_sow_a E_la h_la (e2_fin rs_l_sow_a) = true := by decide +kernel
theorem lp_sow_a (hen : en_ok) (l : Launch) : ∀ d, 260 ≤ d → ∀ M, e2_MT[131]? = some M → e2_Met l M d as_l_sow_a E_la h_la (e2_fin rs_l_sow_a) := fun d hd M hM => e2_cal_ok (S := S_l_sow_a) (I := I_l_sow_a) (H := 250) (fuel := 4000) hen e2_fz (e2_fa ein_9 (e2_fa ein_35 (e2_fa ein_36 (e2_fa ein_131 (e2_fa ein_159 (e2_fa ein_163 (e2_fa ein_291 e2_fz))))))) 3 d (by omega) 131 M hM _ _ _ _ ck_l_sow_a
def as_l_year_a : List ev_V := [(2, 0, 0)]
noncomputable def rs_l_year_a : e2_Rs := [((11, 0, 4294967295), h_la)]
noncomputable def S_l_year_a : List e2_Sm := [s_a250]
noncomputable def I_l_year_a : List e2_In := []
set_option maxRecDepth 1000000 in
theorem ck_l_year_a : e2_cal S_l_year_a I_l_year_a 4000 0 132 as_l_year_a E_la h_la (e2_fin rs_l_year_a) = true := by decide +kernel
theorem lp_year_a (hen : en_ok) (l : Launch) : ∀ d, 260 ≤ d → ∀ M, e2_MT[132]? = some M → e2_Met l M d as_l_year_a E_la h_la (e2_fin rs_l_year_a) := fun d hd M hM => e2_cal_ok (S := S_l_year_a) (I := I_l_year_a) (H := 250) (fuel := 4000) hen (e2_fa ((cs_a250 hen l (hands_a hen l)).mono (by decide)) e2_fz) e2_fz 0 d (by omega) 132 M hM _ _ _ _ ck_l_year_a
def as_l_undo_a : List ev_V := [(2, 0, 0)]
noncomputable def rs_l_undo_a : e2_Rs := [((11, 0, 4294967295), h_la)]
noncomputable def S_l_undo_a : List e2_Sm := []
noncomputable def I_l_undo_a : List e2_In := [(36, 1, e2x_36), (37, 2, e2x_37), (100, 4, e2x_100), (133, 1, e2x_133)]
set_option maxRecDepth 1000000 in
theorem ck_l_undo_a : e2_cal S_l_undo_a I_l_undo_a 4000 3 133 as_l_undo_a E_la h_la (e2_fin rs_l_undo_a) = true := by decide +kernel
theorem lp_undo_a (hen : en_ok) (l : Launch) : ∀ d, 260 ≤ d → ∀ M, e2_MT[133]? = some M → e2_Met l M d as_l_undo_a E_la h_la (e2_fin rs_l_undo_a) := fun d hd M hM => e2_cal_ok (S := S_l_undo_a) (I := I_l_undo_a) (H := 250) (fuel := 4000) hen e2_fz (e2_fa ein_36 (e2_fa ein_37 (e2_fa ein_100 (e2_fa ein_133 e2_fz)))) 3 d (by omega) 133 M hM _ _ _ _ ck_l_undo_a
def as_l_redo_a : List ev_V := [(2, 0, 0)]
noncomputable def rs_l_redo_a : e2_Rs := [((11, 0, 4294967295), h_la)]
noncomputable def S_l_redo_a : List e2_Sm := []
noncomputable def I_l_redo_a : List e2_In := [(36, 1, e2x_36), (38, 2, e2x_38), (100, 4, e2x_100), (134, 1, e2x_134)]
set_option maxRecDepth 1000000 in
theorem ck_l_redo_a : e2_cal S_l_redo_a I_l_redo_a 4000 3 134 as_l_redo_a E_la h_la (e2_fin rs_l_redo_a) = true := by decide +kernel
theorem lp_redo_a (hen : en_ok) (l : Launch) : ∀ d, 260 ≤ d → ∀ M, e2_MT[134]? = some M → e2_Met l M d as_l_redo_a E_la h_la (e2_fin rs_l_redo_a) := fun d hd M hM => e2_cal_ok (S := S_l_redo_a) (I := I_l_redo_a) (H := 250) (fuel := 4000) hen e2_fz (e2_fa ein_36 (e2_fa ein_38 (e2_fa ein_100 (e2_fa ein_134 e2_fz)))) 3 d (by omega) 134 M hM _ _ _ _ ck_l_redo_a
def as_l_readings_a : List ev_V := [(2, 0, 0)]
noncomputable def rs_l_readings_a : e2_Rs := [((11, 0, 4294967295), h_la)]
noncomputable def S_l_readings_a : List e2_Sm := [s_a251]
noncomputable def I_l_readings_a : List e2_In := []
set_option maxRecDepth 1000000 in
theorem ck_l_readings_a : e2_cal S_l_readings_a I_l_readings_a 4000 0 135 as_l_readings_a E_la h_la (e2_fin rs_l_readings_a) = true := by decide +kernel
theorem lp_readings_a (hen : en_ok) (l : Launch) : ∀ d, 260 ≤ d → ∀ M, e2_MT[135]? = some M → e2_Met l M d as_l_readings_a E_la h_la (e2_fin rs_l_readings_a) := fun d hd M hM => e2_cal_ok (S := S_l_readings_a) (I := I_l_readings_a) (H := 250) (fuel := 4000) hen (e2_fa ((cs_a251 hen l (hands_a hen l)).mono (by decide)) e2_fz) e2_fz 0 d (by omega) 135 M hM _ _ _ _ ck_l_readings_a
def as_l_taken_a : List ev_V := [(2, 0, 0)]
noncomputable def rs_l_taken_a : e2_Rs := [((11, 0, 4294967295), h_la)]
noncomputable def S_l_taken_a : List e2_Sm := [s_a252]
noncomputable def I_l_taken_a : List e2_In := []
set_option maxRecDepth 1000000 in
theorem ck_l_taken_a : e2_cal S_l_taken_a I_l_taken_a 4000 0 136 as_l_taken_a E_la h_la (e2_fin rs_l_taken_a) = true := by decide +kernel
theorem lp_taken_a (hen : en_ok) (l : Launch) : ∀ d, 260 ≤ d → ∀ M, e2_MT[136]? = some M → e2_Met l M d as_l_taken_a E_la h_la (e2_fin rs_l_taken_a) := fun d hd M hM => e2_cal_ok (S := S_l_taken_a) (I := I_l_taken_a) (H := 250) (fuel := 4000) hen (e2_fa ((cs_a252 hen l (hands_a hen l)).mono (by decide)) e2_fz) e2_fz 0 d (by omega) 136 M hM _ _ _ _ ck_l_taken_a
def as_l_weight_a : List ev_V := [(2, 0, 0)]
noncomputable def rs_l_weight_a : e2_Rs := [((11, 0, 4294967295), h_la)]
noncomputable def S_l_weight_a : List e2_Sm := [s_a253]
noncomputable def I_l_weight_a : List e2_In := []
set_option maxRecDepth 1000000 in
theorem ck_l_weight_a : e2_cal S_l_weight_a I_l_weight_a 4000 0 137 as_l_weight_a E_la h_la (e2_fin rs_l_weight_a) = true := by decide +kernel
theorem lp_weight_a (hen : en_ok) (l : Launch) : ∀ d, 260 ≤ d → ∀ M, e2_MT[137]? = some M → e2_Met l M d as_l_weight_a E_la h_la (e2_fin rs_l_weight_a) := fun d hd M hM => e2_cal_ok (S := S_l_weight_a) (I := I_l_weight_a) (H := 250) (fuel := 4000) hen (e2_fa ((cs_a253 hen l (hands_a hen l)).mono (by decide)) e2_fz) e2_fz 0 d (by omega) 137 M hM _ _ _ _ ck_l_weight_a
def as_l_does_a : List ev_V := [(2, 0, 0), (11, 0, 4294967295)]
noncomputable def rs_l_does_a : e2_Rs := [((11, 0, 4294967295), h_la)]
noncomputable def S_l_does_a : List e2_Sm := [s_a254]
noncomputable def I_l_does_a : List e2_In := []
set_option maxRecDepth 1000000 in
theorem ck_l_does_a : e2_cal S_l_does_a I_l_does_a 4000 0 138 as_l_does_a E_la h_la (e2_fin rs_l_does_a) = true := by decide +kernel
theorem lp_does_a (hen : en_ok) (l : Launch) : ∀ d, 260 ≤ d → ∀ M, e2_MT[138]? = some M → e2_Met l M d as_l_does_a E_la h_la (e2_fin rs_l_does_a) := fun d hd M hM => e2_cal_ok (S := S_l_does_a) (I := I_l_does_a) (H := 250) (fuel := 4000) hen (e2_fa ((cs_a254 hen l (hands_a hen l)).mono (by decide)) e2_fz) e2_fz 0 d (by omega) 138 M hM _ _ _ _ ck_l_does_a
def as_l_will_a : List ev_V := [(2, 0, 0), (11, 0, 4294967295), (11, 0, 4294967295)]
noncomputable def rs_l_will_a : e2_Rs := [((11, 0, 4294967295), h_la)]
noncomputable def S_l_will_a : List e2_Sm := [s_a258]
noncomputable def I_l_will_a : List e2_In := []
set_option maxRecDepth 1000000 in
theorem ck_l_will_a : e2_cal S_l_will_a I_l_will_a 4000 0 139 as_l_will_a E_la h_la (e2_fin rs_l_will_a) = true := by decide +kernel
theorem lp_will_a (hen : en_ok) (l : Launch) : ∀ d, 260 ≤ d → ∀ M, e2_MT[139]? = some M → e2_Met l M d as_l_will_a E_la h_la (e2_fin rs_l_will_a) := fun d hd M hM => e2_cal_ok (S := S_l_will_a) (I := I_l_will_a) (H := 250) (fuel := 4000) hen (e2_fa ((cs_a258 hen l (hands_a hen l)).mono (by decide)) e2_fz) e2_fz 0 d (by omega) 139 M hM _ _ _ _ ck_l_will_a
def as_l_field_a : List ev_V := [(2, 0, 0), (11, 0, 4294967295)]
noncomputable def rs_l_field_a : e2_Rs := [((11, 0, 4294967295), h_la)]
noncomputable def S_l_field_a : List e2_Sm := [s_a259]
noncomputable def I_l_field_a : List e2_In := []
set_option maxRecDepth 1000000 in
theorem ck_l_field_a : e2_cal S_l_field_a I_l_field_a 4000 0 140 as_l_field_a E_la h_la (e2_fin rs_l_field_a) = true := by decide +kernel
theorem lp_field_a (hen : en_ok) (l : Launch) : ∀ d, 260 ≤ d → ∀ M, e2_MT[140]? = some M → e2_Met l M d as_l_field_a E_la h_la (e2_fin rs_l_field_a) := fun d hd M hM => e2_cal_ok (S := S_l_field_a) (I := I_l_field_a) (H := 250) (fuel := 4000) hen (e2_fa ((cs_a259 hen l (hands_a hen l)).mono (by decide)) e2_fz) e2_fz 0 d (by omega) 140 M hM _ _ _ _ ck_l_field_a
def as_l_harm_a : List ev_V := [(2, 0, 0)]
noncomputable def rs_l_harm_a : e2_Rs := [((11, 0, 4294967295), h_la)]
noncomputable def S_l_harm_a : List e2_Sm := [s_a260]
noncomputable def I_l_harm_a : List e2_In := []
set_option maxRecDepth 1000000 in
theorem ck_l_harm_a : e2_cal S_l_harm_a I_l_harm_a 4000 0 141 as_l_harm_a E_la h_la (e2_fin rs_l_harm_a) = true := by decide +kernel
theorem lp_harm_a (hen : en_ok) (l : Launch) : ∀ d, 260 ≤ d → ∀ M, e2_MT[141]? = some M → e2_Met l M d as_l_harm_a E_la h_la (e2_fin rs_l_harm_a) := fun d hd M hM => e2_cal_ok (S := S_l_harm_a) (I := I_l_harm_a) (H := 250) (fuel := 4000) hen (e2_fa ((cs_a260 hen l (hands_a hen l)).mono (by decide)) e2_fz) e2_fz 0 d (by omega) 141 M hM _ _ _ _ ck_l_harm_a
def as_l_turn_a : List ev_V := [(2, 0, 0), (11, 0, 4294967295), (11, 0, 4294967295)]
noncomputable def rs_l_turn_a : e2_Rs := [((11, 0, 4294967295), h_la)]
noncomputable def S_l_turn_a : List e2_Sm := [s_a261]
noncomputable def I_l_turn_a : List e2_In := []
set_option maxRecDepth 1000000 in
theorem ck_l_turn_a : e2_cal S_l_turn_a I_l_turn_a 4000 0 142 as_l_turn_a E_la h_la (e2_fin rs_l_turn_a) = true := by decide +kernel
theorem lp_turn_a (hen : en_ok) (l : Launch) : ∀ d, 260 ≤ d → ∀ M, e2_MT[142]? = some M → e2_Met l M d as_l_turn_a E_la h_la (e2_fin rs_l_turn_a) := fun d hd M hM => e2_cal_ok (S := S_l_turn_a) (I := I_l_turn_a) (H := 250) (fuel := 4000) hen (e2_fa ((cs_a261 hen l (hands_a hen l)).mono (by decide)) e2_fz) e2_fz 0 d (by omega) 142 M hM _ _ _ _ ck_l_turn_a
def as_l_plain_a : List ev_V := [(2, 0, 0)]
noncomputable def rs_l_plain_a : e2_Rs := [((11, 0, 4294967295), h_la)]
noncomputable def S_l_plain_a : List e2_Sm := [s_a262]
noncomputable def I_l_plain_a : List e2_In := []
set_option maxRecDepth 1000000 in
theorem ck_l_plain_a : e2_cal S_l_plain_a I_l_plain_a 4000 0 143 as_l_plain_a E_la h_la (e2_fin rs_l_plain_a) = true := by decide +kernel
theorem lp_plain_a (hen : en_ok) (l : Launch) : ∀ d, 260 ≤ d → ∀ M, e2_MT[143]? = some M → e2_Met l M d as_l_plain_a E_la h_la (e2_fin rs_l_plain_a) := fun d hd M hM => e2_cal_ok (S := S_l_plain_a) (I := I_l_plain_a) (H := 250) (fuel := 4000) hen (e2_fa ((cs_a262 hen l (hands_a hen l)).mono (by decide)) e2_fz) e2_fz 0 d (by omega) 143 M hM _ _ _ _ ck_l_plain_a
def as_l_orders_a : List ev_V := [(2, 0, 0), (11, 0, 4294967295)]
noncomputable def rs_l_orders_a : e2_Rs := [((11, 0, 4294967295), h_la)]
noncomputable def S_l_orders_a : List e2_Sm := [s_a263]
noncomputable def I_l_orders_a : List e2_In := []
set_option maxRecDepth 1000000 in
theorem ck_l_orders_a : e2_cal S_l_orders_a I_l_orders_a 4000 0 144 as_l_orders_a E_la h_la (e2_fin rs_l_orders_a) = true := by decide +kernel
theorem lp_orders_a (hen : en_ok) (l : Launch) : ∀ d, 260 ≤ d → ∀ M, e2_MT[144]? = some M → e2_Met l M d as_l_orders_a E_la h_la (e2_fin rs_l_orders_a) := fun d hd M hM => e2_cal_ok (S := S_l_orders_a) (I := I_l_orders_a) (H := 250) (fuel := 4000) hen (e2_fa ((cs_a263 hen l (hands_a hen l)).mono (by decide)) e2_fz) e2_fz 0 d (by omega) 144 M hM _ _ _ _ ck_l_orders_a
def as_l_write_a : List ev_V := [(2, 0, 0), (11, 0, 4294967295), (11, 0, 4294967295), (11, 0, 4294967295)]
noncomputable def rs_l_write_a : e2_Rs := [((11, 0, 4294967295), h_la)]
noncomputable def S_l_write_a : List e2_Sm := [s_a264]
noncomputable def I_l_write_a : List e2_In := []
set_option maxRecDepth 1000000 in
theorem ck_l_write_a : e2_cal S_l_write_a I_l_write_a 4000 0 145 as_l_write_a E_la h_la (e2_fin rs_l_write_a) = true := by decide +kernel
theorem lp_write_a (hen : en_ok) (l : Launch) : ∀ d, 260 ≤ d → ∀ M, e2_MT[145]? = some M → e2_Met l M d as_l_write_a E_la h_la (e2_fin rs_l_write_a) := fun d hd M hM => e2_cal_ok (S := S_l_write_a) (I := I_l_write_a) (H := 250) (fuel := 4000) hen (e2_fa ((cs_a264 hen l (hands_a hen l)).mono (by decide)) e2_fz) e2_fz 0 d (by omega) 145 M hM _ _ _ _ ck_l_write_a
def as_l_watch_a : List ev_V := [(2, 0, 0)]
noncomputable def rs_l_watch_a : e2_Rs := [((11, 0, 4294967295), h_la)]
noncomputable def S_l_watch_a : List e2_Sm := [s_a265]
noncomputable def I_l_watch_a : List e2_In := []
set_option maxRecDepth 1000000 in
theorem ck_l_watch_a : e2_cal S_l_watch_a I_l_watch_a 4000 0 146 as_l_watch_a E_la h_la (e2_fin rs_l_watch_a) = true := by decide +kernel
theorem lp_watch_a (hen : en_ok) (l : Launch) : ∀ d, 260 ≤ d → ∀ M, e2_MT[146]? = some M → e2_Met l M d as_l_watch_a E_la h_la (e2_fin rs_l_watch_a) := fun d hd M hM => e2_cal_ok (S := S_l_watch_a) (I := I_l_watch_a) (H := 250) (fuel := 4000) hen (e2_fa ((cs_a265 hen l (hands_a hen l)).mono (by decide)) e2_fz) e2_fz 0 d (by omega) 146 M hM _ _ _ _ ck_l_watch_a
def as_l_cows_a : List ev_V := [(2, 0, 0), (11, 0, 4294967295), (11, 0, 4294967295)]
noncomputable def rs_l_cows_a : e2_Rs := [((11, 0, 4294967295), h_la)]
noncomputable def S_l_cows_a : List e2_Sm := [s_a266]
noncomputable def I_l_cows_a : List e2_In := []
set_option maxRecDepth 1000000 in
theorem ck_l_cows_a : e2_cal S_l_cows_a I_l_cows_a 4000 0 147 as_l_cows_a E_la h_la (e2_fin rs_l_cows_a) = true := by decide +kernel
theorem lp_cows_a (hen : en_ok) (l : Launch) : ∀ d, 260 ≤ d → ∀ M, e2_MT[147]? = some M → e2_Met l M d as_l_cows_a E_la h_la (e2_fin rs_l_cows_a) := fun d hd M hM => e2_cal_ok (S := S_l_cows_a) (I := I_l_cows_a) (H := 250) (fuel := 4000) hen (e2_fa ((cs_a266 hen l (hands_a hen l)).mono (by decide)) e2_fz) e2_fz 0 d (by omega) 147 M hM _ _ _ _ ck_l_cows_a
def as_l_duel_a : List ev_V := [(2, 0, 0), (11, 0, 4294967295), (11, 0, 4294967295), (11, 0, 4294967295), (11, 0, 4294967295)]
noncomputable def rs_l_duel_a : e2_Rs := [((11, 0, 4294967295), h_la)]
noncomputable def S_l_duel_a : List e2_Sm := [s_a267]
noncomputable def I_l_duel_a : List e2_In := []
set_option maxRecDepth 1000000 in
theorem ck_l_duel_a : e2_cal S_l_duel_a I_l_duel_a 4000 0 148 as_l_duel_a E_la h_la (e2_fin rs_l_duel_a) = true := by decide +kernel
theorem lp_duel_a (hen : en_ok) (l : Launch) : ∀ d, 260 ≤ d → ∀ M, e2_MT[148]? = some M → e2_Met l M d as_l_duel_a E_la h_la (e2_fin rs_l_duel_a) := fun d hd M hM => e2_cal_ok (S := S_l_duel_a) (I := I_l_duel_a) (H := 250) (fuel := 4000) hen (e2_fa ((cs_a267 hen l (hands_a hen l)).mono (by decide)) e2_fz) e2_fz 0 d (by omega) 148 M hM _ _ _ _ ck_l_duel_a
def as_l_lies_a : List ev_V := [(2, 0, 0), (11, 0, 4294967295)]
noncomputable def rs_l_lies_a : e2_Rs := [((11, 0, 4294967295), h_la)]
noncomputable def S_l_lies_a : List e2_Sm := []
noncomputable def I_l_lies_a : List e2_In := [(65, 2, e2x_65), (149, 2, e2x_149)]
set_option maxRecDepth 1000000 in
theorem ck_l_lies_a : e2_cal S_l_lies_a I_l_lies_a 4000 2 149 as_l_lies_a E_la h_la (e2_fin rs_l_lies_a) = true := by decide +kernel
theorem lp_lies_a (hen : en_ok) (l : Launch) : ∀ d, 260 ≤ d → ∀ M, e2_MT[149]? = some M → e2_Met l M d as_l_lies_a E_la h_la (e2_fin rs_l_lies_a) := fun d hd M hM => e2_cal_ok (S := S_l_lies_a) (I := I_l_lies_a) (H := 250) (fuel := 4000) hen e2_fz (e2_fa ein_65 (e2_fa ein_149 e2_fz)) 2 d (by omega) 149 M hM _ _ _ _ ck_l_lies_a
def as_l_heard_a : List ev_V := [(2, 0, 0), (11, 0, 4294967295), (11, 0, 4294967295), (11, 0, 4294967295), (11, 2147483648, 2147483649)]
noncomputable def rs_l_heard_a : e2_Rs := [((11, 0, 4294967295), h_la)]
noncomputable def S_l_heard_a : List e2_Sm := [s_a268]
noncomputable def I_l_heard_a : List e2_In := []
set_option maxRecDepth 1000000 in
theorem ck_l_heard_a : e2_cal S_l_heard_a I_l_heard_a 4000 0 150 as_l_heard_a E_la h_la (e2_fin rs_l_heard_a) = true := by decide +kernel
theorem lp_heard_a (hen : en_ok) (l : Launch) : ∀ d, 260 ≤ d → ∀ M, e2_MT[150]? = some M → e2_Met l M d as_l_heard_a E_la h_la (e2_fin rs_l_heard_a) := fun d hd M hM => e2_cal_ok (S := S_l_heard_a) (I := I_l_heard_a) (H := 250) (fuel := 4000) hen (e2_fa ((cs_a268 hen l).mono (by decide)) e2_fz) e2_fz 0 d (by omega) 150 M hM _ _ _ _ ck_l_heard_a
def as_l_untell_a : List ev_V := [(2, 0, 0), (11, 0, 4294967295)]
noncomputable def rs_l_untell_a : e2_Rs := [((11, 0, 4294967295), h_la)]
noncomputable def S_l_untell_a : List e2_Sm := []
noncomputable def I_l_untell_a : List e2_In := [(27, 2, e2x_27), (151, 2, e2x_151)]
set_option maxRecDepth 1000000 in
theorem ck_l_untell_a : e2_cal S_l_untell_a I_l_untell_a 4000 2 151 as_l_untell_a E_la h_la (e2_fin rs_l_untell_a) = true := by decide +kernel
theorem lp_untell_a (hen : en_ok) (l : Launch) : ∀ d, 260 ≤ d → ∀ M, e2_MT[151]? = some M → e2_Met l M d as_l_untell_a E_la h_la (e2_fin rs_l_untell_a) := fun d hd M hM => e2_cal_ok (S := S_l_untell_a) (I := I_l_untell_a) (H := 250) (fuel := 4000) hen e2_fz (e2_fa ein_27 (e2_fa ein_151 e2_fz)) 2 d (by omega) 151 M hM _ _ _ _ ck_l_untell_a
def as_l_fit_a : List ev_V := [(2, 0, 0), (11, 0, 4294967295)]
noncomputable def rs_l_fit_a : e2_Rs := [((11, 0, 4294967295), h_la)]
noncomputable def S_l_fit_a : List e2_Sm := [s_a269]
noncomputable def I_l_fit_a : List e2_In := []
set_option maxRecDepth 1000000 in
theorem ck_l_fit_a : e2_cal S_l_fit_a I_l_fit_a 4000 0 153 as_l_fit_a E_la h_la (e2_fin rs_l_fit_a) = true := by decide +kernel
theorem lp_fit_a (hen : en_ok) (l : Launch) : ∀ d, 260 ≤ d → ∀ M, e2_MT[153]? = some M → e2_Met l M d as_l_fit_a E_la h_la (e2_fin rs_l_fit_a) := fun d hd M hM => e2_cal_ok (S := S_l_fit_a) (I := I_l_fit_a) (H := 250) (fuel := 4000) hen (e2_fa ((cs_a269 hen l).mono (by decide)) e2_fz) e2_fz 0 d (by omega) 153 M hM _ _ _ _ ck_l_fit_a
def as_l_sure_a : List ev_V := [(2, 0, 0), (11, 0, 4294967295), (11, 0, 4294967295), (11, 0, 4294967295)]
noncomputable def rs_l_sure_a : e2_Rs := [((11, 0, 4294967295), h_la)]
noncomputable def S_l_sure_a : List e2_Sm := [s_a270]
noncomputable def I_l_sure_a : List e2_In := []
set_option maxRecDepth 1000000 in
theorem ck_l_sure_a : e2_cal S_l_sure_a I_l_sure_a 4000 0 154 as_l_sure_a E_la h_la (e2_fin rs_l_sure_a) = true := by decide +kernel
theorem lp_sure_a (hen : en_ok) (l : Launch) : ∀ d, 260 ≤ d → ∀ M, e2_MT[154]? = some M → e2_Met l M d as_l_sure_a E_la h_la (e2_fin rs_l_sure_a) := fun d hd M hM => e2_cal_ok (S := S_l_sure_a) (I := I_l_sure_a) (H := 250) (fuel := 4000) hen (e2_fa ((cs_a270 hen l).mono (by decide)) e2_fz) e2_fz 0 d (by omega) 154 M hM _ _ _ _ ck_l_sure_a
def as_l_ask_a : List ev_V := [(2, 0, 0), (11, 0, 4294967295), (11, 0, 4294967295)]
noncomputable def rs_l_ask_a : e2_Rs := [((11, 0, 4294967295), h_la)]
noncomputable def S_l_ask_a : List e2_Sm := [s_a271]
noncomputable def I_l_ask_a : List e2_In := []
set_option maxRecDepth 1000000 in
theorem ck_l_ask_a : e2_cal S_l_ask_a I_l_ask_a 4000 0 155 as_l_ask_a E_la h_la (e2_fin rs_l_ask_a) = true := by decide +kernel
theorem lp_ask_a (hen : en_ok) (l : Launch) : ∀ d, 260 ≤ d → ∀ M, e2_MT[155]? = some M → e2_Met l M d as_l_ask_a E_la h_la (e2_fin rs_l_ask_a) := fun d hd M hM => e2_cal_ok (S := S_l_ask_a) (I := I_l_ask_a) (H := 250) (fuel := 4000) hen (e2_fa ((cs_a271 hen l).mono (by decide)) e2_fz) e2_fz 0 d (by omega) 155 M hM _ _ _ _ ck_l_ask_a
def as_l_image_a : List ev_V := [(2, 0, 0), (11, 0, 4294967295)]
noncomputable def rs_l_image_a : e2_Rs := [((11, 0, 4294967295), h_la)]
noncomputable def S_l_image_a : List e2_Sm := []
noncomputable def I_l_image_a : List e2_In := [(9, 4, e2x_9), (40, 3, e2x_40), (156, 2, e2x_156)]
set_option maxRecDepth 1000000 in
theorem ck_l_image_a : e2_cal S_l_image_a I_l_image_a 4000 3 156 as_l_image_a E_la h_la (e2_fin rs_l_image_a) = true := by decide +kernel
theorem lp_image_a (hen : en_ok) (l : Launch) : ∀ d, 260 ≤ d → ∀ M, e2_MT[156]? = some M → e2_Met l M d as_l_image_a E_la h_la (e2_fin rs_l_image_a) := fun d hd M hM => e2_cal_ok (S := S_l_image_a) (I := I_l_image_a) (H := 250) (fuel := 4000) hen e2_fz (e2_fa ein_9 (e2_fa ein_40 (e2_fa ein_156 e2_fz))) 3 d (by omega) 156 M hM _ _ _ _ ck_l_image_a
def as_l_back_a : List ev_V := [(2, 0, 0), (11, 0, 4294967295)]
noncomputable def rs_l_back_a : e2_Rs := [((11, 0, 4294967295), h_la)]
noncomputable def S_l_back_a : List e2_Sm := []
noncomputable def I_l_back_a : List e2_In := [(3, 2, e2x_3), (9, 4, e2x_9), (41, 3, e2x_41), (100, 4, e2x_100), (157, 2, e2x_157), (159, 2, e2x_159)]
set_option maxRecDepth 1000000 in
theorem ck_l_back_a : e2_cal S_l_back_a I_l_back_a 4000 3 157 as_l_back_a E_la h_la (e2_fin rs_l_back_a) = true := by decide +kernel
theorem lp_back_a (hen : en_ok) (l : Launch) : ∀ d, 260 ≤ d → ∀ M, e2_MT[157]? = some M → e2_Met l M d as_l_back_a E_la h_la (e2_fin rs_l_back_a) := fun d hd M hM => e2_cal_ok (S := S_l_back_a) (I := I_l_back_a) (H := 250) (fuel := 4000) hen e2_fz (e2_fa ein_3 (e2_fa ein_9 (e2_fa ein_41 (e2_fa ein_100 (e2_fa ein_157 (e2_fa ein_159 e2_fz)))))) 3 d (by omega) 157 M hM _ _ _ _ ck_l_back_a
def as_l_about_a : List ev_V := [(2, 0, 0), (11, 0, 4294967295)]
noncomputable def rs_l_about_a : e2_Rs := [((11, 0, 4294967295), h_la)]
noncomputable def S_l_about_a : List e2_Sm := [s_a272]
noncomputable def I_l_about_a : List e2_In := []
set_option maxRecDepth 1000000 in
theorem ck_l_about_a : e2_cal S_l_about_a I_l_about_a 4000 0 158 as_l_about_a E_la h_la (e2_fin rs_l_about_a) = true := by decide +kernel
theorem lp_about_a (hen : en_ok) (l : Launch) : ∀ d, 260 ≤ d → ∀ M, e2_MT[158]? = some M → e2_Met l M d as_l_about_a E_la h_la (e2_fin rs_l_about_a) := fun d hd M hM => e2_cal_ok (S := S_l_about_a) (I := I_l_about_a) (H := 250) (fuel := 4000) hen (e2_fa ((cs_a272 hen l).mono (by decide)) e2_fz) e2_fz 0 d (by omega) 158 M hM _ _ _ _ ck_l_about_a
