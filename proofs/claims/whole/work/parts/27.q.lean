theorem am_qF90009 : am_lq 9 9 am_tF = some (9, 0, 1031, false) := by decide +kernel
theorem am_qF90022 : am_lq 9 22 am_tF = some (9, 1, 1032, false) := by decide +kernel
theorem am_qF100149 : am_lq 10 149 am_tF = some (9, 1, 1033, true) := by decide +kernel
theorem am_qF90026 : am_lq 9 26 am_tF = some (9, 2, 1034, false) := by decide +kernel
theorem am_qF90013 : am_lq 9 13 am_tF = some (9, 3, 1035, false) := by decide +kernel
theorem am_qF40027 : am_lq 4 27 am_tF = some (9, 3, 1036, true) := by decide +kernel
theorem am_qF90029 : am_lq 9 29 am_tF = some (9, 4, 1037, false) := by decide +kernel
theorem am_qF90016 : am_lq 9 16 am_tF = some (9, 5, 1038, false) := by decide +kernel
theorem am_qF40034 : am_lq 4 34 am_tF = some (9, 5, 1039, true) := by decide +kernel
theorem am_qF90019 : am_lq 9 19 am_tF = some (9, 6, 1040, false) := by decide +kernel
theorem am_qF40035 : am_lq 4 35 am_tF = some (9, 6, 1041, true) := by decide +kernel
theorem am_qF40036 : am_lq 4 36 am_tF = some (9, 7, 1042, true) := by decide +kernel
theorem am_qF90032 : am_lq 9 32 am_tF = some (9, 7, 1043, false) := by decide +kernel
theorem am_qF40009 : am_lq 4 9 am_tF = some (4, 0, 1074, false) := by decide +kernel
theorem am_qF40015 : am_lq 4 15 am_tF = some (4, 1, 1075, false) := by decide +kernel
theorem am_qF40018 : am_lq 4 18 am_tF = some (4, 2, 1076, false) := by decide +kernel
theorem am_qF40040 : am_lq 4 40 am_tF = some (4, 3, 1077, false) := by decide +kernel
theorem am_qF40021 : am_lq 4 21 am_tF = some (4, 4, 1078, false) := by decide +kernel
theorem am_qF40024 : am_lq 4 24 am_tF = some (4, 5, 1079, false) := by decide +kernel
theorem am_qF60009 : am_lq 6 9 am_tF = some (6, 0, 1099, false) := by decide +kernel
theorem am_qF20040 : am_lq 2 40 am_tF = some (6, 0, 1100, true) := by decide +kernel
theorem am_qF60015 : am_lq 6 15 am_tF = some (6, 1, 1101, false) := by decide +kernel
theorem am_qF100272 : am_lq 10 272 am_tF = some (6, 1, 1102, true) := by decide +kernel
theorem am_qF60036 : am_lq 6 36 am_tF = some (6, 2, 1103, false) := by decide +kernel
theorem am_qF100269 : am_lq 10 269 am_tF = some (6, 2, 1104, true) := by decide +kernel
theorem am_qF60018 : am_lq 6 18 am_tF = some (6, 3, 1105, false) := by decide +kernel
theorem am_qF60040 : am_lq 6 40 am_tF = some (6, 4, 1106, false) := by decide +kernel
theorem am_qF20077 : am_lq 2 77 am_tF = some (6, 4, 1107, true) := by decide +kernel
theorem am_qF20012 : am_lq 2 12 am_tF = some (2, 0, 1120, false) := by decide +kernel
theorem am_qF100155 : am_lq 10 155 am_tF = some (2, 0, 1121, true) := by decide +kernel
theorem am_qF20018 : am_lq 2 18 am_tF = some (2, 1, 1122, false) := by decide +kernel
theorem am_qF100131 : am_lq 10 131 am_tF = some (2, 1, 1123, true) := by decide +kernel
theorem am_qF20022 : am_lq 2 22 am_tF = some (2, 2, 1124, false) := by decide +kernel
theorem am_qF100143 : am_lq 10 143 am_tF = some (2, 2, 1125, true) := by decide +kernel
theorem am_qF20026 : am_lq 2 26 am_tF = some (2, 3, 1126, false) := by decide +kernel
theorem am_qF100198 : am_lq 10 198 am_tF = some (2, 3, 1127, true) := by decide +kernel
theorem am_qF20032 : am_lq 2 32 am_tF = some (2, 4, 1128, false) := by decide +kernel
theorem am_qF20036 : am_lq 2 36 am_tF = some (2, 5, 1129, false) := by decide +kernel
theorem am_qF20111 : am_lq 2 111 am_tF = some (2, 6, 1130, false) := by decide +kernel
theorem am_qF50011 : am_lq 5 11 am_tF = some (5, 0, 1152, false) := by decide +kernel
theorem am_qF100137 : am_lq 10 137 am_tF = some (5, 0, 1153, true) := by decide +kernel
theorem am_qF50015 : am_lq 5 15 am_tF = some (5, 1, 1154, false) := by decide +kernel
theorem am_qF100140 : am_lq 10 140 am_tF = some (5, 1, 1155, true) := by decide +kernel
theorem am_qF50024 : am_lq 5 24 am_tF = some (5, 2, 1156, false) := by decide +kernel
theorem am_qF100365 : am_lq 10 365 am_tF = some (5, 2, 1157, true) := by decide +kernel
theorem am_qF50018 : am_lq 5 18 am_tF = some (5, 3, 1158, false) := by decide +kernel
theorem am_qF100191 : am_lq 10 191 am_tF = some (5, 3, 1159, true) := by decide +kernel
theorem am_qF50021 : am_lq 5 21 am_tF = some (5, 4, 1160, false) := by decide +kernel
theorem am_qF50057 : am_lq 5 57 am_tF = some (5, 5, 1161, false) := by decide +kernel
theorem am_qF10011 : am_lq 1 11 am_tF = some (1, 0, 1181, false) := by decide +kernel
theorem am_qF10024 : am_lq 1 24 am_tF = some (1, 1, 1182, false) := by decide +kernel
theorem am_qF10015 : am_lq 1 15 am_tF = some (1, 2, 1183, false) := by decide +kernel
theorem am_qF10018 : am_lq 1 18 am_tF = some (1, 3, 1184, false) := by decide +kernel
theorem am_qF10021 : am_lq 1 21 am_tF = some (1, 4, 1185, false) := by decide +kernel
theorem am_qF10044 : am_lq 1 44 am_tF = some (1, 5, 1186, false) := by decide +kernel
theorem am_qF70009 : am_lq 7 9 am_tF = some (7, 0, 1208, false) := by decide +kernel
theorem am_qF100107 : am_lq 10 107 am_tF = some (7, 0, 1209, true) := by decide +kernel
theorem am_qF70015 : am_lq 7 15 am_tF = some (7, 1, 1210, false) := by decide +kernel
theorem am_qF100242 : am_lq 10 242 am_tF = some (7, 1, 1211, true) := by decide +kernel
theorem am_qF70021 : am_lq 7 21 am_tF = some (7, 2, 1212, false) := by decide +kernel
theorem am_qF100245 : am_lq 10 245 am_tF = some (7, 2, 1213, true) := by decide +kernel
theorem am_qF70039 : am_lq 7 39 am_tF = some (7, 3, 1214, false) := by decide +kernel
theorem am_qF100255 : am_lq 10 255 am_tF = some (7, 3, 1215, true) := by decide +kernel
theorem am_qF9 : am_lq 0 9 am_tF = some (0, 0, 1231, false) := by decide +kernel
theorem am_qF100287 : am_lq 10 287 am_tF = some (0, 0, 1232, true) := by decide +kernel
theorem am_qF13 : am_lq 0 13 am_tF = some (0, 1, 1233, false) := by decide +kernel
theorem am_qF100290 : am_lq 10 290 am_tF = some (0, 1, 1234, true) := by decide +kernel
theorem am_qF16 : am_lq 0 16 am_tF = some (0, 2, 1235, false) := by decide +kernel
theorem am_qF100293 : am_lq 10 293 am_tF = some (0, 2, 1236, true) := by decide +kernel
theorem am_qF19 : am_lq 0 19 am_tF = some (0, 3, 1237, false) := by decide +kernel
theorem am_qF100299 : am_lq 10 299 am_tF = some (0, 3, 1238, true) := by decide +kernel
theorem am_qF22 : am_lq 0 22 am_tF = some (0, 4, 1239, false) := by decide +kernel
theorem am_qF100284 : am_lq 10 284 am_tF = some (0, 4, 2000, true) := by decide +kernel
theorem am_qF29 : am_lq 0 29 am_tF = some (0, 5, 2001, false) := by decide +kernel
theorem am_qF100296 : am_lq 10 296 am_tF = some (0, 5, 2002, true) := by decide +kernel
theorem am_qF30011 : am_lq 3 11 am_tF = some (3, 0, 2022, false) := by decide +kernel
theorem am_qF30025 : am_lq 3 25 am_tF = some (3, 1, 2023, false) := by decide +kernel
theorem am_qF100366 : am_lq 10 366 am_tF = some (3, 1, 2024, true) := by decide +kernel
theorem am_qF30015 : am_lq 3 15 am_tF = some (3, 2, 2025, false) := by decide +kernel
theorem am_qF100313 : am_lq 10 313 am_tF = some (3, 2, 2026, true) := by decide +kernel
theorem am_qF30032 : am_lq 3 32 am_tF = some (3, 3, 2027, false) := by decide +kernel
theorem am_qF100367 : am_lq 10 367 am_tF = some (3, 3, 2028, true) := by decide +kernel
theorem am_qF30041 : am_lq 3 41 am_tF = some (3, 4, 2029, false) := by decide +kernel
theorem am_qF30044 : am_lq 3 44 am_tF = some (3, 5, 2030, false) := by decide +kernel
theorem am_qF80015 : am_lq 8 15 am_tF = some (8, 0, 2051, false) := by decide +kernel
theorem am_qF100353 : am_lq 10 353 am_tF = some (8, 0, 2052, true) := by decide +kernel
theorem am_qF80019 : am_lq 8 19 am_tF = some (8, 1, 2053, false) := by decide +kernel
theorem am_qF100356 : am_lq 10 356 am_tF = some (8, 1, 2054, true) := by decide +kernel
theorem am_qF80022 : am_lq 8 22 am_tF = some (8, 2, 2055, false) := by decide +kernel
theorem am_qF100341 : am_lq 10 341 am_tF = some (8, 2, 2056, true) := by decide +kernel
theorem am_qF80025 : am_lq 8 25 am_tF = some (8, 3, 2057, false) := by decide +kernel
theorem am_qF80011 : am_lq 8 11 am_tF = some (8, 4, 2058, false) := by decide +kernel
theorem am_qF100332 : am_lq 10 332 am_tF = some (8, 4, 2059, true) := by decide +kernel
theorem am_qF100010 : am_lq 10 10 am_tF = some (10, 0, 2072, false) := by decide +kernel
theorem am_qF100019 : am_lq 10 19 am_tF = some (10, 1, 2073, false) := by decide +kernel
theorem am_qF100026 : am_lq 10 26 am_tF = some (10, 2, 2074, false) := by decide +kernel
theorem am_qF100033 : am_lq 10 33 am_tF = some (10, 3, 2075, false) := by decide +kernel
theorem am_qF100040 : am_lq 10 40 am_tF = some (10, 4, 2076, false) := by decide +kernel
theorem am_qF100044 : am_lq 10 44 am_tF = some (10, 5, 2077, false) := by decide +kernel
theorem am_qF100050 : am_lq 10 50 am_tF = some (10, 6, 2078, false) := by decide +kernel
theorem am_qF100057 : am_lq 10 57 am_tF = some (10, 7, 2079, false) := by decide +kernel
theorem am_qF100063 : am_lq 10 63 am_tF = some (10, 8, 2080, false) := by decide +kernel
theorem am_qF100068 : am_lq 10 68 am_tF = some (10, 9, 2081, false) := by decide +kernel
theorem am_qF100278 : am_lq 10 278 am_tF = some (10, 10, 2082, false) := by decide +kernel
theorem am_qF100281 : am_lq 10 281 am_tF = some (10, 11, 2083, false) := by decide +kernel
theorem am_qF110013 : am_lq 11 13 am_tF = some (11, 0, 4230, false) := by decide +kernel
theorem am_qF110121 : am_lq 11 121 am_tF = some (11, 1, 4231, false) := by decide +kernel
theorem am_qF110129 : am_lq 11 129 am_tF = some (11, 2, 4232, false) := by decide +kernel
theorem am_qF110017 : am_lq 11 17 am_tF = some (11, 3, 4233, false) := by decide +kernel
theorem am_qF110020 : am_lq 11 20 am_tF = some (11, 4, 4234, false) := by decide +kernel
theorem am_qF110023 : am_lq 11 23 am_tF = some (11, 5, 4235, false) := by decide +kernel
theorem am_qF110142 : am_lq 11 142 am_tF = some (11, 6, 4236, false) := by decide +kernel
theorem am_qF110145 : am_lq 11 145 am_tF = some (11, 7, 4237, false) := by decide +kernel
theorem am_qF110026 : am_lq 11 26 am_tF = some (11, 8, 4238, false) := by decide +kernel
theorem am_qF110148 : am_lq 11 148 am_tF = some (11, 9, 4239, false) := by decide +kernel
theorem am_qF110029 : am_lq 11 29 am_tF = some (11, 10, 5000, false) := by decide +kernel
theorem am_qF110199 : am_lq 11 199 am_tF = some (11, 11, 5001, false) := by decide +kernel
theorem am_qF110202 : am_lq 11 202 am_tF = some (11, 12, 5002, false) := by decide +kernel
theorem am_qF110032 : am_lq 11 32 am_tF = some (11, 13, 5003, false) := by decide +kernel
theorem am_qF110158 : am_lq 11 158 am_tF = some (11, 14, 5004, false) := by decide +kernel
theorem am_qF110155 : am_lq 11 155 am_tF = some (11, 15, 5005, false) := by decide +kernel
theorem am_qF110151 : am_lq 11 151 am_tF = some (11, 16, 5006, false) := by decide +kernel
theorem am_qF110165 : am_lq 11 165 am_tF = some (11, 17, 5007, false) := by decide +kernel
theorem am_qF110035 : am_lq 11 35 am_tF = some (11, 18, 5008, false) := by decide +kernel
theorem am_qF110038 : am_lq 11 38 am_tF = some (11, 19, 5009, false) := by decide +kernel
theorem am_qF110042 : am_lq 11 42 am_tF = some (11, 20, 5010, false) := by decide +kernel
theorem am_qF110045 : am_lq 11 45 am_tF = some (11, 21, 5011, false) := by decide +kernel
theorem am_qF110048 : am_lq 11 48 am_tF = some (11, 22, 5012, false) := by decide +kernel
theorem am_qF110051 : am_lq 11 51 am_tF = some (11, 23, 5013, false) := by decide +kernel
theorem am_qF110054 : am_lq 11 54 am_tF = some (11, 24, 5014, false) := by decide +kernel
theorem am_qF110057 : am_lq 11 57 am_tF = some (11, 25, 5015, false) := by decide +kernel
theorem am_qF110060 : am_lq 11 60 am_tF = some (11, 26, 5016, false) := by decide +kernel
theorem am_qF110064 : am_lq 11 64 am_tF = some (11, 27, 5017, false) := by decide +kernel
theorem am_qF110067 : am_lq 11 67 am_tF = some (11, 28, 5018, false) := by decide +kernel
theorem am_qF110070 : am_lq 11 70 am_tF = some (11, 29, 5019, false) := by decide +kernel
theorem am_qF110073 : am_lq 11 73 am_tF = some (11, 30, 5020, false) := by decide +kernel
theorem am_qF110076 : am_lq 11 76 am_tF = some (11, 31, 5021, false) := by decide +kernel
theorem am_qF110079 : am_lq 11 79 am_tF = some (11, 32, 5022, false) := by decide +kernel
theorem am_qF110290 : am_lq 11 290 am_tF = some (11, 33, 5023, false) := by decide +kernel
theorem am_qF110082 : am_lq 11 82 am_tF = some (11, 34, 5024, false) := by decide +kernel
theorem am_qF110300 : am_lq 11 300 am_tF = some (11, 35, 5025, false) := by decide +kernel
theorem am_qF110085 : am_lq 11 85 am_tF = some (11, 36, 5026, false) := by decide +kernel
theorem am_qF110304 : am_lq 11 304 am_tF = some (11, 37, 5027, false) := by decide +kernel
theorem am_qF110088 : am_lq 11 88 am_tF = some (11, 38, 5028, false) := by decide +kernel
theorem am_qF110091 : am_lq 11 91 am_tF = some (11, 39, 5029, false) := by decide +kernel
theorem am_qF110094 : am_lq 11 94 am_tF = some (11, 40, 5030, false) := by decide +kernel
theorem am_qF110097 : am_lq 11 97 am_tF = some (11, 41, 5031, false) := by decide +kernel
theorem am_qF110307 : am_lq 11 307 am_tF = some (11, 42, 5032, false) := by decide +kernel
theorem am_qF110310 : am_lq 11 310 am_tF = some (11, 43, 5033, false) := by decide +kernel
theorem am_qF110313 : am_lq 11 313 am_tF = some (11, 44, 5034, false) := by decide +kernel
theorem am_qF110100 : am_lq 11 100 am_tF = some (11, 45, 5035, false) := by decide +kernel
theorem am_qF110103 : am_lq 11 103 am_tF = some (11, 46, 5036, false) := by decide +kernel
theorem am_qF110106 : am_lq 11 106 am_tF = some (11, 47, 5037, false) := by decide +kernel
theorem am_qF110316 : am_lq 11 316 am_tF = some (11, 48, 5038, false) := by decide +kernel
theorem am_qF110109 : am_lq 11 109 am_tF = some (11, 49, 5039, false) := by decide +kernel
theorem am_qF110323 : am_lq 11 323 am_tF = some (11, 50, 5040, false) := by decide +kernel
theorem am_qS100072 : am_lq 10 72 am_tS = some (1, 2117, false) := by decide +kernel
theorem am_qS100076 : am_lq 10 76 am_tS = some (2, 2119, false) := by decide +kernel
theorem am_qS20117 : am_lq 2 117 am_tS = some (3, 4033, false) := by decide +kernel
theorem am_qS30018 : am_lq 3 18 am_tS = some (4, 4117, false) := by decide +kernel
theorem am_qS30051 : am_lq 3 51 am_tS = some (5, 4143, false) := by decide +kernel
theorem am_qC120007 : am_lq 12 7 am_tC = some (10, 1017, 1018, 1001) := by decide +kernel
theorem am_qC100007 : am_lq 10 7 am_tC = some (9, 1025, 1026, 1002) := by decide +kernel
theorem am_qC100016 : am_lq 10 16 am_tC = some (2, 1062, 1063, 1003) := by decide +kernel
theorem am_qC20009 : am_lq 2 9 am_tC = some (4, 1068, 1069, 1004) := by decide +kernel
theorem am_qC20029 : am_lq 2 29 am_tC = some (6, 1093, 1094, 1005) := by decide +kernel
theorem am_qC100023 : am_lq 10 23 am_tC = some (5, 1146, 1147, 1006) := by decide +kernel
theorem am_qC100030 : am_lq 10 30 am_tC = some (1, 1175, 1176, 1007) := by decide +kernel
theorem am_qC100037 : am_lq 10 37 am_tC = some (7, 1200, 1201, 1008) := by decide +kernel
theorem am_qC70018 : am_lq 7 18 am_tC = some (6, 1206, 1094, 1005) := by decide +kernel
theorem am_qC100047 : am_lq 10 47 am_tC = some (0, 1225, 1226, 1009) := by decide +kernel
theorem am_qC100054 : am_lq 10 54 am_tC = some (3, 2016, 2017, 1010) := by decide +kernel
theorem am_qC100061 : am_lq 10 61 am_tC = some (8, 2044, 2046, 1011) := by decide +kernel
theorem am_qC120010 : am_lq 12 10 am_tC = some (11, 4221, 4222, 1012) := by decide +kernel
theorem am_qI130265 : am_lq 13 265 am_tI = some (1431655765, 3196) := by decide +kernel
theorem am_qI130266 : am_lq 13 266 am_tI = some (858993459, 3197) := by decide +kernel
theorem am_qI130267 : am_lq 13 267 am_tI = some (252645135, 3198) := by decide +kernel
theorem am_qI20128 : am_lq 2 128 am_tI = some (1103515245, 4051) := by decide +kernel
theorem am_qI110273 : am_lq 11 273 am_tI = some (2147483647, 6079) := by decide +kernel
theorem am_qI110303 : am_lq 11 303 am_tI = some (1103515245, 6141) := by decide +kernel
theorem am_qJ100336 : am_lq 10 336 am_tJ = some (-9223372036854775808, 4199) := by decide +kernel
theorem am_qJ110241 : am_lq 11 241 am_tJ = some (2, 6003) := by decide +kernel
theorem am_qJ110334 : am_lq 11 334 am_tJ = some (-9223372036854775808, 6214) := by decide +kernel
theorem am_qJ120150 : am_lq 12 150 am_tJ = some (4294967295, 6227) := by decide +kernel
set_option maxRecDepth 20000 in
theorem am_qM120009 : am_lq 12 9 am_tM = some (2, 88, 0, 10, false, [1019, 1001, 1020]) := rfl
set_option maxRecDepth 20000 in
theorem am_qM100001 : am_lq 10 1 am_tM = some (3, 0, 0, 0, false, [1022, 1023, 1024]) := rfl
set_option maxRecDepth 20000 in
theorem am_qM100009 : am_lq 10 9 am_tM = some (2, 71, 0, 9, true, [1027, 1002, 1028]) := rfl
set_option maxRecDepth 20000 in
theorem am_qM90001 : am_lq 9 1 am_tM = some (3, 0, 0, 0, false, [1030, 1023, 1024]) := rfl
set_option maxRecDepth 20000 in
theorem am_qM100018 : am_lq 10 18 am_tM = some (2, 6, 0, 2, false, [1064, 1003, 1065]) := rfl
set_option maxRecDepth 20000 in
theorem am_qM20003 : am_lq 2 3 am_tM = some (3, 0, 0, 0, false, [1067, 1023, 1024]) := rfl
set_option maxRecDepth 20000 in
theorem am_qM20011 : am_lq 2 11 am_tM = some (2, 33, 0, 4, true, [1070, 1004, 1071]) := rfl
set_option maxRecDepth 20000 in
theorem am_qM40001 : am_lq 4 1 am_tM = some (3, 0, 0, 0, false, [1073, 1023, 1024]) := rfl
set_option maxRecDepth 20000 in
theorem am_qM20031 : am_lq 2 31 am_tM = some (2, 47, 0, 6, true, [1095, 1005, 1096]) := rfl
set_option maxRecDepth 20000 in
theorem am_qM60003 : am_lq 6 3 am_tM = some (3, 0, 0, 0, false, [1098, 1023, 1024]) := rfl
set_option maxRecDepth 20000 in
theorem am_qM100025 : am_lq 10 25 am_tM = some (2, 38, 0, 5, true, [1148, 1006, 1149]) := rfl
set_option maxRecDepth 20000 in
theorem am_qM50003 : am_lq 5 3 am_tM = some (3, 0, 0, 0, false, [1151, 1023, 1024]) := rfl
set_option maxRecDepth 20000 in
theorem am_qM100032 : am_lq 10 32 am_tM = some (2, 3, 0, 1, true, [1177, 1007, 1178]) := rfl
set_option maxRecDepth 20000 in
theorem am_qM10003 : am_lq 1 3 am_tM = some (3, 0, 0, 0, false, [1180, 1023, 1024]) := rfl
set_option maxRecDepth 20000 in
theorem am_qM100039 : am_lq 10 39 am_tM = some (2, 57, 0, 7, true, [1202, 1008, 1203]) := rfl
set_option maxRecDepth 20000 in
theorem am_qM70003 : am_lq 7 3 am_tM = some (3, 0, 0, 0, false, [1205, 1023, 1024]) := rfl
set_option maxRecDepth 20000 in
theorem am_qM70020 : am_lq 7 20 am_tM = some (2, 47, 0, 6, true, [1207, 1005, 1096]) := rfl
set_option maxRecDepth 20000 in
theorem am_qM100049 : am_lq 10 49 am_tM = some (2, 0, 0, 0, true, [1227, 1009, 1228]) := rfl
set_option maxRecDepth 20000 in
theorem am_qM1 : am_lq 0 1 am_tM = some (3, 0, 0, 0, false, [1230, 1023, 1024]) := rfl
set_option maxRecDepth 20000 in
theorem am_qM100056 : am_lq 10 56 am_tM = some (2, 22, 0, 3, true, [2018, 1010, 2019]) := rfl
set_option maxRecDepth 20000 in
theorem am_qM30003 : am_lq 3 3 am_tM = some (3, 0, 0, 0, false, [2021, 1023, 1024]) := rfl
set_option maxRecDepth 20000 in
theorem am_qM100067 : am_lq 10 67 am_tM = some (2, 59, 0, 8, true, [2047, 1011, 2048]) := rfl
set_option maxRecDepth 20000 in
theorem am_qM80003 : am_lq 8 3 am_tM = some (3, 0, 0, 0, false, [2050, 1023, 1024]) := rfl
set_option maxRecDepth 20000 in
theorem am_qM120013 : am_lq 12 13 am_tM = some (0, 89, 0, 10, false, [2109, 1001, 2110, 2111]) := rfl
set_option maxRecDepth 20000 in
theorem am_qM120018 : am_lq 12 18 am_tM = some (0, 90, 1, 10, false, [2113, 1001, 2114, 2115]) := rfl
set_option maxRecDepth 20000 in
theorem am_qM100079 : am_lq 10 79 am_tM = some (0, 39, 1, 5, false, [2121, 1006, 2122, 2123]) := rfl
set_option maxRecDepth 20000 in
theorem am_qM120023 : am_lq 12 23 am_tM = some (0, 91, 3, 10, false, [2125, 1001, 2126, 2127]) := rfl
set_option maxRecDepth 20000 in
theorem am_qM100083 : am_lq 10 83 am_tM = some (1, 137, 1, 0, false, [2129, 1001, 2130]) := rfl
set_option maxRecDepth 20000 in
theorem am_qM100087 : am_lq 10 87 am_tM = some (0, 135, 1, 10, false, [2132, 1001, 2134, 0]) := rfl
set_option maxRecDepth 20000 in
theorem am_qM100090 : am_lq 10 90 am_tM = some (0, 63, 0, 8, false, [2136, 1011, 2137, 2138]) := rfl
set_option maxRecDepth 20000 in
theorem am_qM80034 : am_lq 8 34 am_tM = some (0, 62, 0, 8, false, [2140, 1011, 2141, 2142]) := rfl
set_option maxRecDepth 20000 in
theorem am_qM100094 : am_lq 10 94 am_tM = some (0, 92, 4, 10, false, [2144, 1001, 2146, 1]) := rfl
set_option maxRecDepth 20000 in
theorem am_qM100098 : am_lq 10 98 am_tM = some (0, 64, 1, 8, false, [2148, 1011, 2149, 2150]) := rfl
set_option maxRecDepth 20000 in
theorem am_qM100101 : am_lq 10 101 am_tM = some (0, 68, 1, 8, false, [2152, 1011, 2153, 2154]) := rfl
set_option maxRecDepth 20000 in
theorem am_qM80038 : am_lq 8 38 am_tM = some (0, 64, 1, 8, false, [2156, 1011, 2149, 2150]) := rfl
set_option maxRecDepth 20000 in
theorem am_qM100104 : am_lq 10 104 am_tM = some (1, 136, 1, 0, false, [2157, 1001, 2158]) := rfl
set_option maxRecDepth 20000 in
theorem am_qM100110 : am_lq 10 110 am_tM = some (1, 140, 2, 0, false, [2160, 1001, 2161]) := rfl
set_option maxRecDepth 20000 in
theorem am_qM120028 : am_lq 12 28 am_tM = some (0, 93, 3, 10, false, [2163, 1001, 2164, 2165]) := rfl
set_option maxRecDepth 20000 in
theorem am_qM100114 : am_lq 10 114 am_tM = some (0, 95, 2, 10, false, [2167, 1001, 2169, 2]) := rfl
set_option maxRecDepth 20000 in
theorem am_qM100128 : am_lq 10 128 am_tM = some (0, 40, 1, 5, false, [2171, 1006, 2172, 2173]) := rfl
set_option maxRecDepth 20000 in
theorem am_qM100118 : am_lq 10 118 am_tM = some (0, 96, 2, 10, false, [2175, 1001, 2177, 3]) := rfl
set_option maxRecDepth 20000 in
theorem am_qM100134 : am_lq 10 134 am_tM = some (1, 141, 2, 0, false, [2179, 1001, 2180]) := rfl
set_option maxRecDepth 20000 in
theorem am_qM100121 : am_lq 10 121 am_tM = some (0, 97, 3, 10, false, [2182, 1001, 2184, 4]) := rfl
set_option maxRecDepth 20000 in
theorem am_qM100125 : am_lq 10 125 am_tM = some (0, 1, 4, 0, false, [2186, 1009, 2187, 2188]) := rfl
set_option maxRecDepth 20000 in
theorem am_qM26 : am_lq 0 26 am_tM = some (0, 2, 0, 0, false, [2190, 1009, 2192, 5]) := rfl
set_option maxRecDepth 20000 in
theorem am_qM32 : am_lq 0 32 am_tM = some (4, 0, 0, 0, false, [2194, 2196, 2195, 1013]) := rfl
set_option maxRecDepth 20000 in
theorem am_qM120032 : am_lq 12 32 am_tM = some (0, 94, 2, 10, false, [2197, 1001, 2198, 2199]) := rfl
set_option maxRecDepth 20000 in
theorem am_qM120037 : am_lq 12 37 am_tM = some (0, 98, 1, 10, false, [2201, 1001, 2202, 2203]) := rfl
set_option maxRecDepth 20000 in
theorem am_qM100146 : am_lq 10 146 am_tM = some (0, 72, 1, 9, false, [2205, 1002, 2206, 2207]) := rfl
set_option maxRecDepth 20000 in
theorem am_qM120041 : am_lq 12 41 am_tM = some (0, 99, 0, 10, false, [2209, 1001, 2210, 2211]) := rfl
set_option maxRecDepth 20000 in
theorem am_qM100152 : am_lq 10 152 am_tM = some (0, 73, 0, 9, false, [2213, 1002, 2214, 2215]) := rfl
set_option maxRecDepth 20000 in
theorem am_qM90035 : am_lq 9 35 am_tM = some (0, 76, 0, 9, false, [2217, 1002, 2219, 6]) := rfl
set_option maxRecDepth 20000 in
theorem am_qM90043 : am_lq 9 43 am_tM = some (0, 77, 1, 9, false, [2221, 1002, 2223, 7]) := rfl
set_option maxRecDepth 20000 in
theorem am_qM90047 : am_lq 9 47 am_tM = some (0, 78, 1, 9, false, [2225, 1002, 2227, 8]) := rfl
set_option maxRecDepth 20000 in
theorem am_qM90056 : am_lq 9 56 am_tM = some (0, 79, 1, 9, false, [2229, 1002, 2231, 9]) := rfl
set_option maxRecDepth 20000 in
theorem am_qM90059 : am_lq 9 59 am_tM = some (0, 80, 1, 9, false, [2233, 1002, 2235, 10]) := rfl
set_option maxRecDepth 20000 in
theorem am_qM90062 : am_lq 9 62 am_tM = some (0, 81, 1, 9, false, [2237, 1002, 2239, 11]) := rfl
set_option maxRecDepth 20000 in
theorem am_qM90065 : am_lq 9 65 am_tM = some (0, 82, 1, 9, false, [3001, 1002, 3003, 12]) := rfl
set_option maxRecDepth 20000 in
theorem am_qM90039 : am_lq 9 39 am_tM = some (0, 74, 0, 9, false, [3005, 1002, 3007, 13]) := rfl
set_option maxRecDepth 20000 in
theorem am_qM90068 : am_lq 9 68 am_tM = some (1, 86, 1, 0, false, [3009, 1002, 3010]) := rfl
set_option maxRecDepth 20000 in
theorem am_qM90071 : am_lq 9 71 am_tM = some (0, 85, 0, 9, false, [3012, 1002, 3014, 14]) := rfl
set_option maxRecDepth 20000 in
theorem am_qM90052 : am_lq 9 52 am_tM = some (0, 75, 1, 9, false, [3016, 1002, 3018, 15]) := rfl
set_option maxRecDepth 20000 in
theorem am_qM90074 : am_lq 9 74 am_tM = some (1, 87, 1, 0, false, [3020, 1002, 3021]) := rfl
set_option maxRecDepth 20000 in
theorem am_qM90078 : am_lq 9 78 am_tM = some (0, 83, 1, 9, false, [3023, 1002, 3025, 16]) := rfl
set_option maxRecDepth 20000 in
theorem am_qM90081 : am_lq 9 81 am_tM = some (0, 84, 2, 9, false, [3027, 1002, 3029, 17]) := rfl
set_option maxRecDepth 20000 in
theorem am_qM100159 : am_lq 10 159 am_tM = some (0, 34, 1, 4, false, [3031, 1004, 3032, 3033]) := rfl
set_option maxRecDepth 20000 in
theorem am_qM40028 : am_lq 4 28 am_tM = some (4, 0, 0, 0, false, [3035, 2196, 2195, 1013]) := rfl
set_option maxRecDepth 20000 in
theorem am_qM120045 : am_lq 12 45 am_tM = some (0, 100, 3, 10, false, [3036, 1001, 3037, 3038]) := rfl
set_option maxRecDepth 20000 in
theorem am_qM100165 : am_lq 10 165 am_tM = some (0, 142, 1, 10, false, [3040, 1001, 3042, 18]) := rfl
set_option maxRecDepth 20000 in
theorem am_qM100220 : am_lq 10 220 am_tM = some (0, 7, 0, 2, false, [3044, 1003, 3045, 3046]) := rfl
set_option maxRecDepth 20000 in
theorem am_qM100370 : am_lq 10 370 am_tM = some (0, 69, 1, 8, false, [3048, 1011, 3049, 3050]) := rfl
set_option maxRecDepth 20000 in
theorem am_qM80046 : am_lq 8 46 am_tM = some (1, 232, 2, 0, false, [3052, 1014, 3053]) := rfl
set_option maxRecDepth 20000 in
theorem am_qM80049 : am_lq 8 49 am_tM = some (0, 68, 1, 8, false, [3055, 1011, 2153, 2154]) := rfl
set_option maxRecDepth 20000 in
theorem am_qM100168 : am_lq 10 168 am_tM = some (0, 8, 2, 2, false, [3056, 1003, 3057, 3058]) := rfl
set_option maxRecDepth 20000 in
theorem am_qM20043 : am_lq 2 43 am_tM = some (0, 52, 1, 6, false, [3060, 1005, 3061, 3062]) := rfl
set_option maxRecDepth 20000 in
theorem am_qM60030 : am_lq 6 30 am_tM = some (1, 232, 2, 0, false, [3064, 1014, 3053]) := rfl
set_option maxRecDepth 20000 in
theorem am_qM60043 : am_lq 6 43 am_tM = some (1, 141, 2, 0, true, [3065, 1001, 2180]) := rfl
set_option maxRecDepth 20000 in
theorem am_qM20047 : am_lq 2 47 am_tM = some (1, 9, 1, 0, false, [3066, 1003, 3067]) := rfl
set_option maxRecDepth 20000 in
theorem am_qM20051 : am_lq 2 51 am_tM = some (1, 10, 1, 0, false, [3069, 1003, 3070]) := rfl
set_option maxRecDepth 20000 in
theorem am_qM20054 : am_lq 2 54 am_tM = some (0, 54, 4, 6, false, [3072, 1005, 3073, 3074]) := rfl
set_option maxRecDepth 20000 in
theorem am_qM60047 : am_lq 6 47 am_tM = some (0, 35, 6, 4, false, [3076, 1004, 3077, 3078]) := rfl
set_option maxRecDepth 20000 in
theorem am_qM40041 : am_lq 4 41 am_tM = some (0, 36, 2, 4, false, [3080, 1004, 3082, 19]) := rfl
set_option maxRecDepth 20000 in
theorem am_qM40053 : am_lq 4 53 am_tM = some (1, 37, 3, 0, false, [3084, 1004, 3085]) := rfl
set_option maxRecDepth 20000 in
theorem am_qM40045 : am_lq 4 45 am_tM = some (6, 0, 0, 0, false, [3087, 3089, 1015, 3088]) := rfl
set_option maxRecDepth 20000 in
theorem am_qM40050 : am_lq 4 50 am_tM = some (5, 0, 0, 0, false, [3090, 3092, 1015, 3091]) := rfl
set_option maxRecDepth 20000 in
theorem am_qM120049 : am_lq 12 49 am_tM = some (0, 101, 2, 10, false, [3093, 1001, 3094, 3095]) := rfl
set_option maxRecDepth 20000 in
theorem am_qM100171 : am_lq 10 171 am_tM = some (1, 138, 1, 0, false, [3097, 1001, 3098]) := rfl
set_option maxRecDepth 20000 in
theorem am_qM100174 : am_lq 10 174 am_tM = some (0, 144, 1, 10, false, [3100, 1001, 3102, 20]) := rfl
set_option maxRecDepth 20000 in
theorem am_qM100184 : am_lq 10 184 am_tM = some (0, 143, 1, 10, false, [3104, 1001, 3106, 21]) := rfl
set_option maxRecDepth 20000 in
theorem am_qM100194 : am_lq 10 194 am_tM = some (0, 70, 2, 8, false, [3108, 1011, 3109, 3110]) := rfl
set_option maxRecDepth 20000 in
theorem am_qM80053 : am_lq 8 53 am_tM = some (0, 65, 2, 8, false, [3112, 1011, 3113, 3114]) := rfl
set_option maxRecDepth 20000 in
theorem am_qM100177 : am_lq 10 177 am_tM = some (0, 11, 1, 2, false, [3116, 1003, 3117, 3118]) := rfl
set_option maxRecDepth 20000 in
theorem am_qM20058 : am_lq 2 58 am_tM = some (0, 49, 0, 6, false, [3120, 1005, 3121, 3122]) := rfl
set_option maxRecDepth 20000 in
theorem am_qM20061 : am_lq 2 61 am_tM = some (0, 55, 1, 6, false, [3124, 1005, 3125, 3126]) := rfl
set_option maxRecDepth 20000 in
theorem am_qM60058 : am_lq 6 58 am_tM = some (7, 0, 0, 0, false, [3128, 3130, 1015, 3129]) := rfl
set_option maxRecDepth 20000 in
theorem am_qM20065 : am_lq 2 65 am_tM = some (0, 53, 4, 6, false, [3131, 1005, 3132, 3133]) := rfl
set_option maxRecDepth 20000 in
theorem am_qM60053 : am_lq 6 53 am_tM = some (6, 0, 0, 0, false, [3135, 3089, 1015, 3088]) := rfl
set_option maxRecDepth 20000 in
theorem am_qM120053 : am_lq 12 53 am_tM = some (0, 102, 3, 10, false, [3136, 1001, 3137, 3138]) := rfl
set_option maxRecDepth 20000 in
theorem am_qM100181 : am_lq 10 181 am_tM = some (0, 139, 1, 10, false, [3140, 1001, 3142, 22]) := rfl
set_option maxRecDepth 20000 in
theorem am_qM100187 : am_lq 10 187 am_tM = some (0, 12, 4, 2, false, [3144, 1003, 3145, 3146]) := rfl
set_option maxRecDepth 20000 in
theorem am_qM20069 : am_lq 2 69 am_tM = some (0, 16, 4, 2, false, [3148, 1003, 3150, 23]) := rfl
set_option maxRecDepth 20000 in
theorem am_qM20099 : am_lq 2 99 am_tM = some (1, 232, 2, 0, false, [3152, 1014, 3053]) := rfl
set_option maxRecDepth 20000 in
theorem am_qM20080 : am_lq 2 80 am_tM = some (1, 17, 3, 0, false, [3153, 1003, 3154]) := rfl
set_option maxRecDepth 20000 in
theorem am_qM20105 : am_lq 2 105 am_tM = some (1, 140, 2, 0, true, [3156, 1001, 2161]) := rfl
set_option maxRecDepth 20000 in
theorem am_qM20073 : am_lq 2 73 am_tM = some (0, 13, 2, 2, false, [3157, 1003, 3159, 24]) := rfl
set_option maxRecDepth 20000 in
theorem am_qM20084 : am_lq 2 84 am_tM = some (7, 0, 0, 0, false, [3161, 3130, 1015, 3129]) := rfl
set_option maxRecDepth 20000 in
theorem am_qM120057 : am_lq 12 57 am_tM = some (0, 103, 2, 10, false, [3162, 1001, 3163, 3164]) := rfl
set_option maxRecDepth 20000 in
theorem am_qM100201 : am_lq 10 201 am_tM = some (0, 41, 5, 5, false, [3166, 1006, 3167, 3168]) := rfl
set_option maxRecDepth 20000 in
theorem am_qM50028 : am_lq 5 28 am_tM = some (7, 0, 0, 0, false, [3170, 3130, 1015, 3129]) := rfl
set_option maxRecDepth 20000 in
theorem am_qM120061 : am_lq 12 61 am_tM = some (0, 104, 2, 10, false, [3171, 1001, 3172, 3173]) := rfl
set_option maxRecDepth 20000 in
theorem am_qM100205 : am_lq 10 205 am_tM = some (0, 42, 1, 5, false, [3175, 1006, 3176, 3177]) := rfl
set_option maxRecDepth 20000 in
theorem am_qM50034 : am_lq 5 34 am_tM = some (0, 43, 1, 5, false, [3179, 1006, 3181, 25]) := rfl
set_option maxRecDepth 20000 in
theorem am_qM50051 : am_lq 5 51 am_tM = some (0, 70, 2, 8, false, [3183, 1011, 3109, 3110]) := rfl
set_option maxRecDepth 20000 in
theorem am_qM50038 : am_lq 5 38 am_tM = some (0, 44, 1, 5, false, [3184, 1006, 3186, 26]) := rfl
set_option maxRecDepth 20000 in
theorem am_qM50060 : am_lq 5 60 am_tM = some (0, 45, 2, 5, false, [3188, 1006, 3190, 27]) := rfl
set_option maxRecDepth 20000 in
theorem am_qM50064 : am_lq 5 64 am_tM = some (0, 41, 5, 5, false, [3192, 1006, 3167, 3168]) := rfl
set_option maxRecDepth 20000 in
theorem am_qM50042 : am_lq 5 42 am_tM = some (1, 227, 1, 0, false, [3193, 1016, 3194]) := rfl
set_option maxRecDepth 20000 in
theorem am_qM50047 : am_lq 5 47 am_tM = some (0, 46, 1, 5, false, [3199, 1006, 3201, 28]) := rfl
set_option maxRecDepth 20000 in
theorem am_qM100209 : am_lq 10 209 am_tM = some (1, 227, 1, 0, false, [3203, 1016, 3194]) := rfl
set_option maxRecDepth 20000 in
theorem am_qM120065 : am_lq 12 65 am_tM = some (0, 105, 3, 10, false, [3204, 1001, 3205, 3206]) := rfl
set_option maxRecDepth 20000 in
theorem am_qM100214 : am_lq 10 214 am_tM = some (0, 14, 4, 2, false, [3208, 1003, 3209, 3210]) := rfl
set_option maxRecDepth 20000 in
theorem am_qM20089 : am_lq 2 89 am_tM = some (0, 15, 1, 2, false, [3212, 1003, 3214, 29]) := rfl
set_option maxRecDepth 20000 in
theorem am_qM20093 : am_lq 2 93 am_tM = some (6, 0, 0, 0, false, [3216, 3089, 1015, 3088]) := rfl
set_option maxRecDepth 20000 in
theorem am_qM20096 : am_lq 2 96 am_tM = some (5, 0, 0, 0, false, [3217, 3092, 1015, 3091]) := rfl
set_option maxRecDepth 20000 in
theorem am_qM120069 : am_lq 12 69 am_tM = some (0, 106, 2, 10, false, [3218, 1001, 3219, 3220]) := rfl
set_option maxRecDepth 20000 in
theorem am_qM100217 : am_lq 10 217 am_tM = some (0, 107, 1, 10, false, [3222, 1001, 3224, 30]) := rfl
set_option maxRecDepth 20000 in
theorem am_qM100224 : am_lq 10 224 am_tM = some (0, 108, 2, 10, false, [3226, 1001, 3228, 31]) := rfl
set_option maxRecDepth 20000 in
theorem am_qM120073 : am_lq 12 73 am_tM = some (0, 109, 1, 10, false, [3230, 1001, 3231, 3232]) := rfl
set_option maxRecDepth 20000 in
theorem am_qM100227 : am_lq 10 227 am_tM = some (0, 110, 1, 10, false, [3234, 1001, 3236, 32]) := rfl
set_option maxRecDepth 20000 in
theorem am_qM120077 : am_lq 12 77 am_tM = some (0, 111, 3, 10, false, [3238, 1001, 3239, 4000]) := rfl
set_option maxRecDepth 20000 in
theorem am_qM100230 : am_lq 10 230 am_tM = some (0, 4, 3, 1, false, [4002, 1007, 4003, 4004]) := rfl
set_option maxRecDepth 20000 in
theorem am_qM10028 : am_lq 1 28 am_tM = some (0, 64, 1, 8, false, [4006, 1011, 2149, 2150]) := rfl
set_option maxRecDepth 20000 in
theorem am_qM10034 : am_lq 1 34 am_tM = some (0, 68, 1, 8, false, [4007, 1011, 2153, 2154]) := rfl
set_option maxRecDepth 20000 in
theorem am_qM10038 : am_lq 1 38 am_tM = some (1, 232, 2, 0, false, [4008, 1014, 3053]) := rfl
set_option maxRecDepth 20000 in
theorem am_qM10047 : am_lq 1 47 am_tM = some (0, 5, 3, 1, false, [4009, 1007, 4011, 33]) := rfl
set_option maxRecDepth 20000 in
theorem am_qM10051 : am_lq 1 51 am_tM = some (4, 0, 0, 0, false, [4013, 2196, 2195, 1013]) := rfl
set_option maxRecDepth 20000 in
theorem am_qM10057 : am_lq 1 57 am_tM = some (5, 0, 0, 0, false, [4014, 3092, 1015, 3091]) := rfl
set_option maxRecDepth 20000 in
theorem am_qM120081 : am_lq 12 81 am_tM = some (0, 112, 3, 10, false, [4015, 1001, 4016, 4017]) := rfl
set_option maxRecDepth 20000 in
theorem am_qM100234 : am_lq 10 234 am_tM = some (0, 18, 2, 2, false, [4019, 1003, 4020, 4021]) := rfl
set_option maxRecDepth 20000 in
theorem am_qM20108 : am_lq 2 108 am_tM = some (0, 48, 1, 6, false, [4023, 1005, 4024, 4025]) := rfl
set_option maxRecDepth 20000 in
theorem am_qM60021 : am_lq 6 21 am_tM = some (4, 0, 0, 0, false, [4027, 2196, 2195, 1013]) := rfl
set_option maxRecDepth 20000 in
theorem am_qM60027 : am_lq 6 27 am_tM = some (0, 49, 0, 6, false, [4028, 1005, 3121, 3122]) := rfl
set_option maxRecDepth 20000 in
theorem am_qM20114 : am_lq 2 114 am_tM = some (0, 19, 2, 2, false, [4029, 1003, 4031, 34]) := rfl
set_option maxRecDepth 20000 in
theorem am_qM20120 : am_lq 2 120 am_tM = some (0, 20, 3, 2, false, [4035, 1003, 4037, 35]) := rfl
set_option maxRecDepth 20000 in
theorem am_qM20124 : am_lq 2 124 am_tM = some (0, 50, 1, 6, false, [4039, 1005, 4040, 4041]) := rfl
set_option maxRecDepth 20000 in
theorem am_qM120085 : am_lq 12 85 am_tM = some (0, 113, 4, 10, false, [4043, 1001, 4044, 4045]) := rfl
set_option maxRecDepth 20000 in
theorem am_qM100238 : am_lq 10 238 am_tM = some (0, 21, 4, 2, false, [4047, 1003, 4048, 4049]) := rfl
set_option maxRecDepth 20000 in
theorem am_qM20129 : am_lq 2 129 am_tM = some (0, 56, 2, 6, false, [4052, 1005, 4053, 4054]) := rfl
set_option maxRecDepth 20000 in
theorem am_qM120090 : am_lq 12 90 am_tM = some (0, 114, 2, 10, false, [4056, 1001, 4057, 4058]) := rfl
set_option maxRecDepth 20000 in
theorem am_qM120094 : am_lq 12 94 am_tM = some (0, 115, 2, 10, false, [4060, 1001, 4061, 4062]) := rfl
set_option maxRecDepth 20000 in
theorem am_qM100249 : am_lq 10 249 am_tM = some (0, 48, 1, 6, false, [4064, 1005, 4024, 4025]) := rfl
set_option maxRecDepth 20000 in
theorem am_qM100259 : am_lq 10 259 am_tM = some (0, 51, 0, 6, false, [4065, 1005, 4066, 4067]) := rfl
set_option maxRecDepth 20000 in
theorem am_qM120098 : am_lq 12 98 am_tM = some (0, 116, 0, 10, false, [4069, 1001, 4070, 4071]) := rfl
set_option maxRecDepth 20000 in
theorem am_qM100262 : am_lq 10 262 am_tM = some (0, 52, 1, 6, false, [4073, 1005, 3061, 3062]) := rfl
set_option maxRecDepth 20000 in
theorem am_qM100265 : am_lq 10 265 am_tM = some (0, 53, 4, 6, false, [4074, 1005, 3132, 3133]) := rfl
set_option maxRecDepth 20000 in
theorem am_qM120102 : am_lq 12 102 am_tM = some (0, 117, 1, 10, false, [4075, 1001, 4076, 4077]) := rfl
set_option maxRecDepth 20000 in
theorem am_qM120106 : am_lq 12 106 am_tM = some (0, 118, 2, 10, false, [4079, 1001, 4080, 4081]) := rfl
set_option maxRecDepth 20000 in
theorem am_qM120110 : am_lq 12 110 am_tM = some (0, 119, 1, 10, false, [4083, 1001, 4084, 4085]) := rfl
set_option maxRecDepth 20000 in
theorem am_qM120114 : am_lq 12 114 am_tM = some (0, 120, 0, 10, false, [4087, 1001, 4088, 4089]) := rfl
set_option maxRecDepth 20000 in
theorem am_qM100275 : am_lq 10 275 am_tM = some (0, 58, 2, 7, false, [4091, 1008, 4092, 4093]) := rfl
set_option maxRecDepth 20000 in
theorem am_qM70025 : am_lq 7 25 am_tM = some (1, 140, 2, 0, true, [4095, 1001, 2161]) := rfl
set_option maxRecDepth 20000 in
theorem am_qM70029 : am_lq 7 29 am_tM = some (4, 0, 0, 0, false, [4096, 2196, 2195, 1013]) := rfl
set_option maxRecDepth 20000 in
theorem am_qM70035 : am_lq 7 35 am_tM = some (0, 50, 1, 6, false, [4097, 1005, 4040, 4041]) := rfl
set_option maxRecDepth 20000 in
theorem am_qM120118 : am_lq 12 118 am_tM = some (0, 121, 0, 10, false, [4098, 1001, 4099, 4100]) := rfl
set_option maxRecDepth 20000 in
theorem am_qM120122 : am_lq 12 122 am_tM = some (0, 122, 0, 10, false, [4102, 1001, 4103, 4104]) := rfl
set_option maxRecDepth 20000 in
theorem am_qM120126 : am_lq 12 126 am_tM = some (0, 123, 0, 10, false, [4106, 1001, 4107, 4108]) := rfl
set_option maxRecDepth 20000 in
theorem am_qM120130 : am_lq 12 130 am_tM = some (0, 124, 1, 10, false, [4110, 1001, 4111, 4112]) := rfl
set_option maxRecDepth 20000 in
theorem am_qM100302 : am_lq 10 302 am_tM = some (1, 23, 1, 0, false, [4114, 1010, 4115]) := rfl
set_option maxRecDepth 20000 in
theorem am_qM100305 : am_lq 10 305 am_tM = some (0, 25, 1, 3, false, [4119, 1010, 4120, 4121]) := rfl
set_option maxRecDepth 20000 in
theorem am_qM120134 : am_lq 12 134 am_tM = some (0, 125, 3, 10, false, [4123, 1001, 4124, 4125]) := rfl
set_option maxRecDepth 20000 in
theorem am_qM100306 : am_lq 10 306 am_tM = some (0, 29, 3, 3, false, [4127, 1010, 4128, 4129]) := rfl
set_option maxRecDepth 20000 in
theorem am_qM30029 : am_lq 3 29 am_tM = some (0, 26, 1, 3, false, [4131, 1010, 4132, 4133]) := rfl
set_option maxRecDepth 20000 in
theorem am_qM30047 : am_lq 3 47 am_tM = some (0, 32, 4, 3, false, [4135, 1010, 4137, 36]) := rfl
set_option maxRecDepth 20000 in
theorem am_qM30054 : am_lq 3 54 am_tM = some (1, 30, 2, 0, false, [4139, 1010, 4140]) := rfl
set_option maxRecDepth 20000 in
theorem am_qM30021 : am_lq 3 21 am_tM = some (1, 23, 1, 0, false, [4142, 1010, 4115]) := rfl
set_option maxRecDepth 20000 in
theorem am_qM30057 : am_lq 3 57 am_tM = some (0, 31, 1, 3, false, [4145, 1010, 4147, 37]) := rfl
set_option maxRecDepth 20000 in
theorem am_qM120138 : am_lq 12 138 am_tM = some (0, 126, 1, 10, false, [4149, 1001, 4150, 4151]) := rfl
set_option maxRecDepth 20000 in
theorem am_qM100310 : am_lq 10 310 am_tM = some (0, 28, 0, 3, false, [4153, 1010, 4154, 4155]) := rfl
set_option maxRecDepth 20000 in
theorem am_qM30035 : am_lq 3 35 am_tM = some (6, 0, 0, 0, false, [4157, 3089, 1015, 3088]) := rfl
set_option maxRecDepth 20000 in
theorem am_qM120142 : am_lq 12 142 am_tM = some (0, 127, 2, 10, false, [4158, 1001, 4159, 4160]) := rfl
set_option maxRecDepth 20000 in
theorem am_qM100316 : am_lq 10 316 am_tM = some (0, 26, 1, 3, false, [4162, 1010, 4132, 4133]) := rfl
set_option maxRecDepth 20000 in
theorem am_qM100317 : am_lq 10 317 am_tM = some (0, 60, 1, 8, false, [4163, 1011, 4164, 4165]) := rfl
set_option maxRecDepth 20000 in
theorem am_qM120146 : am_lq 12 146 am_tM = some (0, 128, 3, 10, false, [4167, 1001, 4168, 4169]) := rfl
set_option maxRecDepth 20000 in
theorem am_qM100321 : am_lq 10 321 am_tM = some (0, 61, 2, 8, false, [4171, 1011, 4172, 4173]) := rfl
set_option maxRecDepth 20000 in
theorem am_qM80028 : am_lq 8 28 am_tM = some (1, 231, 2, 0, false, [4175, 1014, 4176]) := rfl
set_option maxRecDepth 20000 in
theorem am_qM120152 : am_lq 12 152 am_tM = some (0, 129, 3, 10, false, [4178, 1001, 4179, 4180]) := rfl
set_option maxRecDepth 20000 in
theorem am_qM100325 : am_lq 10 325 am_tM = some (0, 131, 2, 10, false, [4182, 1001, 4184, 38]) := rfl
set_option maxRecDepth 20000 in
theorem am_qM100338 : am_lq 10 338 am_tM = some (0, 62, 0, 8, false, [4186, 1011, 2141, 2142]) := rfl
set_option maxRecDepth 20000 in
theorem am_qM100328 : am_lq 10 328 am_tM = some (0, 66, 2, 8, false, [4187, 1011, 4188, 4189]) := rfl
set_option maxRecDepth 20000 in
theorem am_qM80042 : am_lq 8 42 am_tM = some (0, 67, 1, 8, false, [4191, 1011, 4193, 39]) := rfl
set_option maxRecDepth 20000 in
theorem am_qM120157 : am_lq 12 157 am_tM = some (0, 130, 2, 10, false, [4195, 1001, 4196, 4197]) := rfl
set_option maxRecDepth 20000 in
theorem am_qM120162 : am_lq 12 162 am_tM = some (0, 132, 5, 10, false, [4200, 1001, 4201, 4202]) := rfl
set_option maxRecDepth 20000 in
theorem am_qM100344 : am_lq 10 344 am_tM = some (0, 65, 2, 8, false, [4204, 1011, 3113, 3114]) := rfl
set_option maxRecDepth 20000 in
theorem am_qM100347 : am_lq 10 347 am_tM = some (4, 0, 0, 0, false, [4205, 2196, 2195, 1013]) := rfl
set_option maxRecDepth 20000 in
theorem am_qM120167 : am_lq 12 167 am_tM = some (0, 133, 2, 10, false, [4206, 1001, 4207, 4208]) := rfl
set_option maxRecDepth 20000 in
theorem am_qM100359 : am_lq 10 359 am_tM = some (0, 27, 1, 3, false, [4210, 1010, 4211, 4212]) := rfl
set_option maxRecDepth 20000 in
theorem am_qM100362 : am_lq 10 362 am_tM = some (1, 24, 2, 0, false, [4214, 1010, 4215]) := rfl
set_option maxRecDepth 20000 in
theorem am_qM120171 : am_lq 12 171 am_tM = some (0, 134, 1, 10, false, [4217, 1001, 4218, 4219]) := rfl
set_option maxRecDepth 20000 in
theorem am_qM120012 : am_lq 12 12 am_tM = some (2, 145, 0, 11, false, [4223, 1012, 4224]) := rfl
set_option maxRecDepth 20000 in
theorem am_qM110001 : am_lq 11 1 am_tM = some (3, 0, 0, 0, false, [4226, 1023, 1024]) := rfl
set_option maxRecDepth 20000 in
theorem am_qM110007 : am_lq 11 7 am_tM = some (1, 148, 0, 0, false, [4227, 1012, 4228]) := rfl
set_option maxRecDepth 20000 in
theorem am_qM120017 : am_lq 12 17 am_tM = some (0, 151, 0, 11, false, [5145, 1012, 5146, 5147]) := rfl
set_option maxRecDepth 20000 in
theorem am_qM120022 : am_lq 12 22 am_tM = some (0, 152, 1, 11, false, [5149, 1012, 5150, 5151]) := rfl
set_option maxRecDepth 20000 in
theorem am_qM110125 : am_lq 11 125 am_tM = some (1, 146, 3, 0, false, [5153, 1012, 5154]) := rfl
set_option maxRecDepth 20000 in
theorem am_qM120031 : am_lq 12 31 am_tM = some (0, 154, 3, 11, false, [5156, 1012, 5157, 5158]) := rfl
set_option maxRecDepth 20000 in
theorem am_qM110139 : am_lq 11 139 am_tM = some (0, 153, 2, 11, false, [5160, 1012, 5162, 40]) := rfl
set_option maxRecDepth 20000 in
theorem am_qM110132 : am_lq 11 132 am_tM = some (0, 149, 1, 11, false, [5164, 1012, 5166, 41]) := rfl
set_option maxRecDepth 20000 in
theorem am_qM110136 : am_lq 11 136 am_tM = some (0, 150, 1, 11, false, [5168, 1012, 5170, 42]) := rfl
set_option maxRecDepth 20000 in
theorem am_qM120036 : am_lq 12 36 am_tM = some (0, 155, 2, 11, false, [5172, 1012, 5173, 5174]) := rfl
set_option maxRecDepth 20000 in
theorem am_qM120125 : am_lq 12 125 am_tM = some (0, 156, 0, 11, false, [5176, 1012, 5177, 5178]) := rfl
set_option maxRecDepth 20000 in
theorem am_qM120129 : am_lq 12 129 am_tM = some (0, 157, 0, 11, false, [5180, 1012, 5181, 5182]) := rfl
set_option maxRecDepth 20000 in
theorem am_qM120040 : am_lq 12 40 am_tM = some (0, 160, 1, 11, false, [5184, 1012, 5185, 5186]) := rfl
set_option maxRecDepth 20000 in
theorem am_qM120044 : am_lq 12 44 am_tM = some (0, 172, 0, 11, false, [5188, 1012, 5189, 5190]) := rfl
set_option maxRecDepth 20000 in
theorem am_qM110196 : am_lq 11 196 am_tM = some (0, 171, 0, 11, false, [5192, 1012, 5194, 43]) := rfl
set_option maxRecDepth 20000 in
theorem am_qM110181 : am_lq 11 181 am_tM = some (0, 170, 0, 11, false, [5196, 1012, 5198, 44]) := rfl
set_option maxRecDepth 20000 in
theorem am_qM110193 : am_lq 11 193 am_tM = some (0, 169, 0, 11, false, [5200, 1012, 5202, 45]) := rfl
set_option maxRecDepth 20000 in
theorem am_qM110190 : am_lq 11 190 am_tM = some (0, 168, 0, 11, false, [5204, 1012, 5206, 46]) := rfl
set_option maxRecDepth 20000 in
theorem am_qM110187 : am_lq 11 187 am_tM = some (0, 167, 0, 11, false, [5208, 1012, 5210, 47]) := rfl
set_option maxRecDepth 20000 in
theorem am_qM110184 : am_lq 11 184 am_tM = some (0, 166, 0, 11, false, [5212, 1012, 5214, 48]) := rfl
set_option maxRecDepth 20000 in
theorem am_qM110178 : am_lq 11 178 am_tM = some (0, 165, 0, 11, false, [5216, 1012, 5218, 49]) := rfl
set_option maxRecDepth 20000 in
theorem am_qM110161 : am_lq 11 161 am_tM = some (0, 162, 0, 11, false, [5220, 1012, 5222, 50]) := rfl
set_option maxRecDepth 20000 in
theorem am_qM110168 : am_lq 11 168 am_tM = some (0, 163, 0, 11, false, [5224, 1012, 5226, 51]) := rfl
set_option maxRecDepth 20000 in
theorem am_qM110172 : am_lq 11 172 am_tM = some (0, 161, 1, 11, false, [5228, 1012, 5230, 52]) := rfl
set_option maxRecDepth 20000 in
theorem am_qM110175 : am_lq 11 175 am_tM = some (0, 164, 0, 11, false, [5232, 1012, 5234, 53]) := rfl
set_option maxRecDepth 20000 in
theorem am_qM120027 : am_lq 12 27 am_tM = some (0, 186, 3, 11, false, [5236, 1012, 5237, 5238]) := rfl
set_option maxRecDepth 20000 in
theorem am_qM110238 : am_lq 11 238 am_tM = some (1, 180, 1, 0, false, [6000, 1012, 6001]) := rfl
set_option maxRecDepth 20000 in
theorem am_qM110224 : am_lq 11 224 am_tM = some (0, 182, 2, 11, false, [6004, 1012, 6006, 54]) := rfl
set_option maxRecDepth 20000 in
theorem am_qM110243 : am_lq 11 243 am_tM = some (0, 159, 3, 11, false, [6008, 1012, 6010, 55]) := rfl
set_option maxRecDepth 20000 in
theorem am_qM120048 : am_lq 12 48 am_tM = some (0, 187, 3, 11, false, [6012, 1012, 6013, 6014]) := rfl
set_option maxRecDepth 20000 in
theorem am_qM110247 : am_lq 11 247 am_tM = some (0, 185, 2, 11, false, [6016, 1012, 6018, 56]) := rfl
set_option maxRecDepth 20000 in
theorem am_qM110227 : am_lq 11 227 am_tM = some (0, 181, 1, 11, false, [6020, 1012, 6022, 57]) := rfl
set_option maxRecDepth 20000 in
theorem am_qM110230 : am_lq 11 230 am_tM = some (0, 183, 1, 11, false, [6024, 1012, 6026, 58]) := rfl
set_option maxRecDepth 20000 in
theorem am_qM110234 : am_lq 11 234 am_tM = some (0, 184, 2, 11, false, [6028, 1012, 6030, 59]) := rfl
set_option maxRecDepth 20000 in
theorem am_qM110249 : am_lq 11 249 am_tM = some (0, 176, 0, 11, false, [6032, 1012, 6034, 60]) := rfl
set_option maxRecDepth 20000 in
theorem am_qM110252 : am_lq 11 252 am_tM = some (0, 177, 1, 11, false, [6036, 1012, 6038, 61]) := rfl
set_option maxRecDepth 20000 in
theorem am_qM110216 : am_lq 11 216 am_tM = some (0, 175, 2, 11, false, [6040, 1012, 6042, 62]) := rfl
set_option maxRecDepth 20000 in
theorem am_qM110205 : am_lq 11 205 am_tM = some (0, 174, 1, 11, false, [6044, 1012, 6046, 63]) := rfl
set_option maxRecDepth 20000 in
theorem am_qM110209 : am_lq 11 209 am_tM = some (0, 173, 0, 11, false, [6048, 1012, 6050, 64]) := rfl
set_option maxRecDepth 20000 in
theorem am_qM110212 : am_lq 11 212 am_tM = some (1, 147, 3, 0, false, [6052, 1012, 6053]) := rfl
set_option maxRecDepth 20000 in
theorem am_qM110112 : am_lq 11 112 am_tM = some (6, 0, 0, 0, false, [6055, 3089, 1015, 3088]) := rfl
set_option maxRecDepth 20000 in
theorem am_qM110118 : am_lq 11 118 am_tM = some (5, 0, 0, 0, false, [6056, 3092, 1015, 3091]) := rfl
set_option maxRecDepth 20000 in
theorem am_qM110255 : am_lq 11 255 am_tM = some (1, 178, 2, 0, false, [6057, 1012, 6058]) := rfl
set_option maxRecDepth 20000 in
theorem am_qM120052 : am_lq 12 52 am_tM = some (0, 189, 2, 11, false, [6060, 1012, 6061, 6062]) := rfl
set_option maxRecDepth 20000 in
theorem am_qM110259 : am_lq 11 259 am_tM = some (1, 188, 1, 0, false, [6064, 1012, 6065]) := rfl
set_option maxRecDepth 20000 in
theorem am_qM110262 : am_lq 11 262 am_tM = some (0, 179, 1, 11, false, [6067, 1012, 6069, 65]) := rfl
set_option maxRecDepth 20000 in
theorem am_qM110220 : am_lq 11 220 am_tM = some (7, 0, 0, 0, false, [6071, 3130, 1015, 3129]) := rfl
set_option maxRecDepth 20000 in
theorem am_qM120056 : am_lq 12 56 am_tM = some (0, 192, 3, 11, false, [6072, 1012, 6073, 6074]) := rfl
set_option maxRecDepth 20000 in
theorem am_qM110268 : am_lq 11 268 am_tM = some (1, 190, 1, 0, false, [6076, 1012, 6077]) := rfl
set_option maxRecDepth 20000 in
theorem am_qM110274 : am_lq 11 274 am_tM = some (0, 191, 3, 11, false, [6080, 1012, 6082, 66]) := rfl
set_option maxRecDepth 20000 in
theorem am_qM110265 : am_lq 11 265 am_tM = some (0, 158, 2, 11, false, [6084, 1012, 6086, 67]) := rfl
set_option maxRecDepth 20000 in
theorem am_qM120060 : am_lq 12 60 am_tM = some (0, 194, 2, 11, false, [6088, 1012, 6089, 6090]) := rfl
set_option maxRecDepth 20000 in
theorem am_qM110277 : am_lq 11 277 am_tM = some (0, 193, 5, 11, false, [6092, 1012, 6094, 68]) := rfl
set_option maxRecDepth 20000 in
theorem am_qM120064 : am_lq 12 64 am_tM = some (0, 195, 2, 11, false, [6096, 1012, 6097, 6098]) := rfl
set_option maxRecDepth 20000 in
theorem am_qM110281 : am_lq 11 281 am_tM = some (1, 227, 1, 0, false, [6100, 1016, 3194]) := rfl
set_option maxRecDepth 20000 in
theorem am_qM110284 : am_lq 11 284 am_tM = some (0, 196, 2, 11, false, [6101, 1012, 6103, 69]) := rfl
set_option maxRecDepth 20000 in
theorem am_qM120068 : am_lq 12 68 am_tM = some (0, 197, 3, 11, false, [6105, 1012, 6106, 6107]) := rfl
set_option maxRecDepth 20000 in
theorem am_qM120072 : am_lq 12 72 am_tM = some (0, 198, 2, 11, false, [6109, 1012, 6110, 6111]) := rfl
set_option maxRecDepth 20000 in
theorem am_qM120076 : am_lq 12 76 am_tM = some (0, 200, 1, 11, false, [6113, 1012, 6114, 6115]) := rfl
set_option maxRecDepth 20000 in
theorem am_qM110287 : am_lq 11 287 am_tM = some (0, 199, 1, 11, false, [6117, 1012, 6119, 70]) := rfl
set_option maxRecDepth 20000 in
theorem am_qM120080 : am_lq 12 80 am_tM = some (0, 202, 3, 11, false, [6121, 1012, 6122, 6123]) := rfl
set_option maxRecDepth 20000 in
theorem am_qM110293 : am_lq 11 293 am_tM = some (0, 201, 5, 11, false, [6125, 1012, 6127, 71]) := rfl
set_option maxRecDepth 20000 in
theorem am_qM120084 : am_lq 12 84 am_tM = some (0, 204, 3, 11, false, [6129, 1012, 6130, 6131]) := rfl
set_option maxRecDepth 20000 in
theorem am_qM110297 : am_lq 11 297 am_tM = some (0, 203, 2, 11, false, [6133, 1012, 6135, 72]) := rfl
set_option maxRecDepth 20000 in
theorem am_qM120089 : am_lq 12 89 am_tM = some (0, 205, 4, 11, false, [6137, 1012, 6138, 6139]) := rfl
set_option maxRecDepth 20000 in
theorem am_qM120093 : am_lq 12 93 am_tM = some (0, 206, 2, 11, false, [6142, 1012, 6143, 6144]) := rfl
set_option maxRecDepth 20000 in
theorem am_qM120097 : am_lq 12 97 am_tM = some (0, 207, 2, 11, false, [6146, 1012, 6147, 6148]) := rfl
set_option maxRecDepth 20000 in
theorem am_qM120101 : am_lq 12 101 am_tM = some (0, 208, 0, 11, false, [6150, 1012, 6151, 6152]) := rfl
set_option maxRecDepth 20000 in
theorem am_qM120105 : am_lq 12 105 am_tM = some (0, 209, 1, 11, false, [6154, 1012, 6155, 6156]) := rfl
set_option maxRecDepth 20000 in
theorem am_qM120109 : am_lq 12 109 am_tM = some (0, 210, 2, 11, false, [6158, 1012, 6159, 6160]) := rfl
set_option maxRecDepth 20000 in
theorem am_qM120113 : am_lq 12 113 am_tM = some (0, 211, 1, 11, false, [6162, 1012, 6163, 6164]) := rfl
set_option maxRecDepth 20000 in
theorem am_qM120117 : am_lq 12 117 am_tM = some (0, 212, 0, 11, false, [6166, 1012, 6167, 6168]) := rfl
set_option maxRecDepth 20000 in
theorem am_qM120121 : am_lq 12 121 am_tM = some (0, 213, 0, 11, false, [6170, 1012, 6171, 6172]) := rfl
set_option maxRecDepth 20000 in
theorem am_qM120133 : am_lq 12 133 am_tM = some (0, 214, 1, 11, false, [6174, 1012, 6175, 6176]) := rfl
set_option maxRecDepth 20000 in
theorem am_qM120137 : am_lq 12 137 am_tM = some (0, 217, 3, 11, false, [6178, 1012, 6179, 6180]) := rfl
set_option maxRecDepth 20000 in
theorem am_qM110326 : am_lq 11 326 am_tM = some (0, 215, 3, 11, false, [6182, 1012, 6184, 73]) := rfl
set_option maxRecDepth 20000 in
theorem am_qM110319 : am_lq 11 319 am_tM = some (0, 216, 4, 11, false, [6186, 1012, 6188, 74]) := rfl
set_option maxRecDepth 20000 in
theorem am_qM120141 : am_lq 12 141 am_tM = some (0, 218, 1, 11, false, [6190, 1012, 6191, 6192]) := rfl
set_option maxRecDepth 20000 in
theorem am_qM120145 : am_lq 12 145 am_tM = some (0, 219, 2, 11, false, [6194, 1012, 6195, 6196]) := rfl
set_option maxRecDepth 20000 in
theorem am_qM120149 : am_lq 12 149 am_tM = some (0, 220, 3, 11, false, [6198, 1012, 6199, 6200]) := rfl
set_option maxRecDepth 20000 in
theorem am_qM120156 : am_lq 12 156 am_tM = some (0, 222, 3, 11, false, [6202, 1012, 6203, 6204]) := rfl
set_option maxRecDepth 20000 in
theorem am_qM110329 : am_lq 11 329 am_tM = some (0, 221, 2, 11, false, [6206, 1012, 6208, 75]) := rfl
set_option maxRecDepth 20000 in
theorem am_qM120161 : am_lq 12 161 am_tM = some (0, 223, 2, 11, false, [6210, 1012, 6211, 6212]) := rfl
set_option maxRecDepth 20000 in
theorem am_qM120166 : am_lq 12 166 am_tM = some (0, 224, 5, 11, false, [6215, 1012, 6216, 6217]) := rfl
set_option maxRecDepth 20000 in
theorem am_qM120170 : am_lq 12 170 am_tM = some (0, 225, 2, 11, false, [6219, 1012, 6220, 6221]) := rfl
set_option maxRecDepth 20000 in
theorem am_qM120174 : am_lq 12 174 am_tM = some (0, 226, 1, 11, false, [6223, 1012, 6224, 6225]) := rfl
set_option maxRecDepth 20000 in
theorem am_mt0 : am_mt 0 = mX0_init := rfl
set_option maxRecDepth 20000 in
theorem am_mt1 : am_mt 1 = mX0_come := rfl
set_option maxRecDepth 20000 in
theorem am_mt2 : am_mt 2 = mX0_forgetFirst := rfl
set_option maxRecDepth 20000 in
theorem am_mt3 : am_mt 3 = mX1_init := rfl
set_option maxRecDepth 20000 in
theorem am_mt4 : am_mt 4 = mX1_leastTime := rfl
set_option maxRecDepth 20000 in
theorem am_mt5 : am_mt 5 = mX1_layOn := rfl
set_option maxRecDepth 20000 in
theorem am_mt6 : am_mt 6 = mX2_init := rfl
set_option maxRecDepth 20000 in
theorem am_mt7 : am_mt 7 = mX2_mix := rfl
set_option maxRecDepth 20000 in
theorem am_mt8 : am_mt 8 = mX2_tasteBehind := rfl
set_option maxRecDepth 20000 in
theorem am_mt9 : am_mt 9 = mX2_firstOf := rfl
set_option maxRecDepth 20000 in
theorem am_mt10 : am_mt 10 = mX2_lastOf := rfl
set_option maxRecDepth 20000 in
theorem am_mt11 : am_mt 11 = mX2_bestMinutes := rfl
set_option maxRecDepth 20000 in
theorem am_mt12 : am_mt 12 = mX2_nearestMix := rfl
set_option maxRecDepth 20000 in
theorem am_mt13 : am_mt 13 = mX2_farBehind := rfl
set_option maxRecDepth 20000 in
theorem am_mt14 : am_mt 14 = mX2_fittingMixes := rfl
set_option maxRecDepth 20000 in
theorem am_mt15 : am_mt 15 = mX2_fits := rfl
set_option maxRecDepth 20000 in
theorem am_mt16 : am_mt 16 = mX2_isMixOf := rfl
set_option maxRecDepth 20000 in
theorem am_mt17 : am_mt 17 = mX2_digit := rfl
set_option maxRecDepth 20000 in
theorem am_mt18 : am_mt 18 = mX2_playedOut := rfl
set_option maxRecDepth 20000 in
theorem am_mt19 : am_mt 19 = mX2_played := rfl
set_option maxRecDepth 20000 in
theorem am_mt20 : am_mt 20 = mX2_isDone := rfl
set_option maxRecDepth 20000 in
theorem am_mt21 : am_mt 21 = mX2_drawnTerms := rfl
set_option maxRecDepth 20000 in
theorem am_mt22 : am_mt 22 = mX3_init := rfl
set_option maxRecDepth 20000 in
theorem am_mt23 : am_mt 23 = mX3_isKind := rfl
set_option maxRecDepth 20000 in
theorem am_mt24 : am_mt 24 = mX3_isUnder := rfl
set_option maxRecDepth 20000 in
theorem am_mt25 : am_mt 25 = mX3_come := rfl
set_option maxRecDepth 20000 in
theorem am_mt26 : am_mt 26 = mX3_isOne := rfl
set_option maxRecDepth 20000 in
theorem am_mt27 : am_mt 27 = mX3_kindOf := rfl
set_option maxRecDepth 20000 in
theorem am_mt28 : am_mt 28 = mX3_traced := rfl
set_option maxRecDepth 20000 in
theorem am_mt29 : am_mt 29 = mX3_acted := rfl
set_option maxRecDepth 20000 in
theorem am_mt30 : am_mt 30 = mX3_bodyFrom := rfl
set_option maxRecDepth 20000 in
theorem am_mt31 : am_mt 31 = mX3_began := rfl
set_option maxRecDepth 20000 in
theorem am_mt32 : am_mt 32 = mX3_run := rfl
set_option maxRecDepth 20000 in
theorem am_mt33 : am_mt 33 = mX4_init := rfl
set_option maxRecDepth 20000 in
theorem am_mt34 : am_mt 34 = mX4_becomes := rfl
set_option maxRecDepth 20000 in
theorem am_mt35 : am_mt 35 = mX4_grown := rfl
set_option maxRecDepth 20000 in
theorem am_mt36 : am_mt 36 = mX4_workedOut := rfl
set_option maxRecDepth 20000 in
theorem am_mt37 : am_mt 37 = mX4_joined := rfl
set_option maxRecDepth 20000 in
theorem am_mt38 : am_mt 38 = mX5_init := rfl
set_option maxRecDepth 20000 in
theorem am_mt39 : am_mt 39 = mX5_come := rfl
set_option maxRecDepth 20000 in
theorem am_mt40 : am_mt 40 = mX5_isOne := rfl
set_option maxRecDepth 20000 in
theorem am_mt41 : am_mt 41 = mX5_tells := rfl
set_option maxRecDepth 20000 in
theorem am_mt42 : am_mt 42 = mX5_fewest := rfl
set_option maxRecDepth 20000 in
theorem am_mt43 : am_mt 43 = mX5_soupsOf := rfl
set_option maxRecDepth 20000 in
theorem am_mt44 : am_mt 44 = mX5_pairUp := rfl
set_option maxRecDepth 20000 in
theorem am_mt45 : am_mt 45 = mX5_tellersOf := rfl
set_option maxRecDepth 20000 in
theorem am_mt46 : am_mt 46 = mX5_tellAll := rfl
set_option maxRecDepth 20000 in
theorem am_mt47 : am_mt 47 = mX6_init := rfl
set_option maxRecDepth 20000 in
theorem am_mt48 : am_mt 48 = mX6_putOn := rfl
set_option maxRecDepth 20000 in
theorem am_mt49 : am_mt 49 = mX6_begin := rfl
set_option maxRecDepth 20000 in
theorem am_mt50 : am_mt 50 = mX6_becomes := rfl
set_option maxRecDepth 20000 in
theorem am_mt51 : am_mt 51 = mX6_howMuch := rfl
set_option maxRecDepth 20000 in
theorem am_mt52 : am_mt 52 = mX6_weigh := rfl
set_option maxRecDepth 20000 in
theorem am_mt53 : am_mt 53 = mX6_pass := rfl
set_option maxRecDepth 20000 in
theorem am_mt54 : am_mt 54 = mX6_behind := rfl
set_option maxRecDepth 20000 in
theorem am_mt55 : am_mt 55 = mX6_farFrom := rfl
set_option maxRecDepth 20000 in
theorem am_mt56 : am_mt 56 = mX6_sumOfTastes := rfl
set_option maxRecDepth 20000 in
theorem am_mt57 : am_mt 57 = mX7_init := rfl
set_option maxRecDepth 20000 in
theorem am_mt58 : am_mt 58 = mX7_becomes := rfl
set_option maxRecDepth 20000 in
theorem am_mt59 : am_mt 59 = mX8_init := rfl
set_option maxRecDepth 20000 in
theorem am_mt60 : am_mt 60 = mX8_hold := rfl
set_option maxRecDepth 20000 in
theorem am_mt61 : am_mt 61 = mX8_holdRow := rfl
set_option maxRecDepth 20000 in
theorem am_mt62 : am_mt 62 = mX8_refusedAsRow := rfl
set_option maxRecDepth 20000 in
theorem am_mt63 : am_mt 63 = mX8_refusedAsBytes := rfl
set_option maxRecDepth 20000 in
theorem am_mt64 : am_mt 64 = mX8_hasPlace := rfl
set_option maxRecDepth 20000 in
theorem am_mt65 : am_mt 65 = mX8_hasPlaces := rfl
set_option maxRecDepth 20000 in
theorem am_mt66 : am_mt 66 = mX8_set := rfl
set_option maxRecDepth 20000 in
theorem am_mt67 : am_mt 67 = mX8_lowestBits := rfl
set_option maxRecDepth 20000 in
theorem am_mt68 : am_mt 68 = mX8_byteAt := rfl
set_option maxRecDepth 20000 in
theorem am_mt69 : am_mt 69 = mX8_giveMix := rfl
set_option maxRecDepth 20000 in
theorem am_mt70 : am_mt 70 = mX8_giveSoup := rfl
set_option maxRecDepth 20000 in
theorem am_mt71 : am_mt 71 = mX9_init := rfl
set_option maxRecDepth 20000 in
theorem am_mt72 : am_mt 72 = mX9_take := rfl
set_option maxRecDepth 20000 in
theorem am_mt73 : am_mt 73 = mX9_readText := rfl
set_option maxRecDepth 20000 in
theorem am_mt74 : am_mt 74 = mX9_next := rfl
set_option maxRecDepth 20000 in
theorem am_mt75 : am_mt 75 = mX9_make := rfl
set_option maxRecDepth 20000 in
theorem am_mt76 : am_mt 76 = mX9_readLine := rfl
set_option maxRecDepth 20000 in
theorem am_mt77 : am_mt 77 = mX9_readE := rfl
set_option maxRecDepth 20000 in
theorem am_mt78 : am_mt 78 = mX9_readA := rfl
set_option maxRecDepth 20000 in
theorem am_mt79 : am_mt 79 = mX9_readB := rfl
set_option maxRecDepth 20000 in
theorem am_mt80 : am_mt 80 = mX9_readS := rfl
set_option maxRecDepth 20000 in
theorem am_mt81 : am_mt 81 = mX9_readP := rfl
set_option maxRecDepth 20000 in
theorem am_mt82 : am_mt 82 = mX9_readO := rfl
set_option maxRecDepth 20000 in
theorem am_mt83 : am_mt 83 = mX9_readInner := rfl
set_option maxRecDepth 20000 in
theorem am_mt84 : am_mt 84 = mX9_readSigned := rfl
set_option maxRecDepth 20000 in
theorem am_mt85 : am_mt 85 = mX9_readNumber := rfl
set_option maxRecDepth 20000 in
theorem am_mt86 : am_mt 86 = mX9_isDigit := rfl
set_option maxRecDepth 20000 in
theorem am_mt87 : am_mt 87 = mX9_nameStep := rfl
set_option maxRecDepth 20000 in
theorem am_mt88 : am_mt 88 = mX10_init := rfl
set_option maxRecDepth 20000 in
theorem am_mt89 : am_mt 89 = mX10_house := rfl
set_option maxRecDepth 20000 in
theorem am_mt90 : am_mt 90 = mX10_nose := rfl
set_option maxRecDepth 20000 in
theorem am_mt91 : am_mt 91 = mX10_things := rfl
set_option maxRecDepth 20000 in
theorem am_mt92 : am_mt 92 = mX10_toldFrom := rfl
set_option maxRecDepth 20000 in
theorem am_mt93 : am_mt 93 = mX10_mend := rfl
set_option maxRecDepth 20000 in
theorem am_mt94 : am_mt 94 = mX10_of := rfl
set_option maxRecDepth 20000 in
theorem am_mt95 : am_mt 95 = mX10_isTold := rfl
set_option maxRecDepth 20000 in
theorem am_mt96 : am_mt 96 = mX10_told := rfl
set_option maxRecDepth 20000 in
theorem am_mt97 : am_mt 97 = mX10_tell := rfl
set_option maxRecDepth 20000 in
theorem am_mt98 : am_mt 98 = mX10_feed := rfl
set_option maxRecDepth 20000 in
theorem am_mt99 : am_mt 99 = mX10_law := rfl
set_option maxRecDepth 20000 in
theorem am_mt100 : am_mt 100 = mX10_taste := rfl
set_option maxRecDepth 20000 in
theorem am_mt101 : am_mt 101 = mX10_best := rfl
set_option maxRecDepth 20000 in
theorem am_mt102 : am_mt 102 = mX10_nearest := rfl
set_option maxRecDepth 20000 in
theorem am_mt103 : am_mt 103 = mX10_apart := rfl
set_option maxRecDepth 20000 in
theorem am_mt104 : am_mt 104 = mX10_jury := rfl
set_option maxRecDepth 20000 in
theorem am_mt105 : am_mt 105 = mX10_inHouse := rfl
set_option maxRecDepth 20000 in
theorem am_mt106 : am_mt 106 = mX10_lent := rfl
set_option maxRecDepth 20000 in
theorem am_mt107 : am_mt 107 = mX10_fewestLent := rfl
set_option maxRecDepth 20000 in
theorem am_mt108 : am_mt 108 = mX10_hadByOthers := rfl
set_option maxRecDepth 20000 in
theorem am_mt109 : am_mt 109 = mX10_whoCould := rfl
set_option maxRecDepth 20000 in
theorem am_mt110 : am_mt 110 = mX10_hasMix := rfl
set_option maxRecDepth 20000 in
theorem am_mt111 : am_mt 111 = mX10_fires := rfl
set_option maxRecDepth 20000 in
theorem am_mt112 : am_mt 112 = mX10_byTurns := rfl
set_option maxRecDepth 20000 in
theorem am_mt113 : am_mt 113 = mX10_drawn := rfl
set_option maxRecDepth 20000 in
theorem am_mt114 : am_mt 114 = mX10_fact := rfl
set_option maxRecDepth 20000 in
theorem am_mt115 : am_mt 115 = mX10_pot := rfl
set_option maxRecDepth 20000 in
theorem am_mt116 : am_mt 116 = mX10_minute := rfl
set_option maxRecDepth 20000 in
theorem am_mt117 : am_mt 117 = mX10_potOf := rfl
set_option maxRecDepth 20000 in
theorem am_mt118 : am_mt 118 = mX10_spoon := rfl
set_option maxRecDepth 20000 in
theorem am_mt119 : am_mt 119 = mX10_led := rfl
set_option maxRecDepth 20000 in
theorem am_mt120 : am_mt 120 = mX10_image := rfl
set_option maxRecDepth 20000 in
theorem am_mt121 : am_mt 121 = mX10_back := rfl
set_option maxRecDepth 20000 in
theorem am_mt122 : am_mt 122 = mX10_undo := rfl
set_option maxRecDepth 20000 in
theorem am_mt123 : am_mt 123 = mX10_redo := rfl
set_option maxRecDepth 20000 in
theorem am_mt124 : am_mt 124 = mX10_body := rfl
set_option maxRecDepth 20000 in
theorem am_mt125 : am_mt 125 = mX10_act := rfl
set_option maxRecDepth 20000 in
theorem am_mt126 : am_mt 126 = mX10_trace := rfl
set_option maxRecDepth 20000 in
theorem am_mt127 : am_mt 127 = mX10_keep := rfl
set_option maxRecDepth 20000 in
theorem am_mt128 : am_mt 128 = mX10_row := rfl
set_option maxRecDepth 20000 in
theorem am_mt129 : am_mt 129 = mX10_put := rfl
set_option maxRecDepth 20000 in
theorem am_mt130 : am_mt 130 = mX10_element := rfl
set_option maxRecDepth 20000 in
theorem am_mt131 : am_mt 131 = mX10_placeRefused := rfl
set_option maxRecDepth 20000 in
theorem am_mt132 : am_mt 132 = mX10_shift := rfl
set_option maxRecDepth 20000 in
theorem am_mt133 : am_mt 133 = mX10_taken := rfl
set_option maxRecDepth 20000 in
theorem am_mt134 : am_mt 134 = mX10_count := rfl
set_option maxRecDepth 20000 in
theorem am_mt135 : am_mt 135 = mX10_isHouse := rfl
set_option maxRecDepth 20000 in
theorem am_mt136 : am_mt 136 = mX10_isThing := rfl
set_option maxRecDepth 20000 in
theorem am_mt137 : am_mt 137 = mX10_isShelf := rfl
set_option maxRecDepth 20000 in
theorem am_mt138 : am_mt 138 = mX10_areShelves := rfl
set_option maxRecDepth 20000 in
theorem am_mt139 : am_mt 139 = mX10_isSearch := rfl
set_option maxRecDepth 20000 in
theorem am_mt140 : am_mt 140 = mX10_larder := rfl
set_option maxRecDepth 20000 in
theorem am_mt141 : am_mt 141 = mX10_strengthAt := rfl
set_option maxRecDepth 20000 in
theorem am_mt142 : am_mt 142 = mX10_readyMix := rfl
set_option maxRecDepth 20000 in
theorem am_mt143 : am_mt 143 = mX10_readySoup := rfl
set_option maxRecDepth 20000 in
theorem am_mt144 : am_mt 144 = mX10_readyMixAndSoup := rfl
set_option maxRecDepth 20000 in
theorem am_mt145 : am_mt 145 = mX11_init := rfl
set_option maxRecDepth 20000 in
theorem am_mt146 : am_mt 146 = mX11_isIn := rfl
set_option maxRecDepth 20000 in
theorem am_mt147 : am_mt 147 = mX11_bound := rfl
set_option maxRecDepth 20000 in
theorem am_mt148 : am_mt 148 = mX11_fresh := rfl
set_option maxRecDepth 20000 in
theorem am_mt149 : am_mt 149 = mX11_isHouse := rfl
set_option maxRecDepth 20000 in
theorem am_mt150 : am_mt 150 = mX11_isNose := rfl
set_option maxRecDepth 20000 in
theorem am_mt151 : am_mt 151 = mX11_house := rfl
set_option maxRecDepth 20000 in
theorem am_mt152 : am_mt 152 = mX11_nose := rfl
set_option maxRecDepth 20000 in
theorem am_mt153 : am_mt 153 = mX11_place := rfl
set_option maxRecDepth 20000 in
theorem am_mt154 : am_mt 154 = mX11_mend := rfl
set_option maxRecDepth 20000 in
theorem am_mt155 : am_mt 155 = mX11_of := rfl
set_option maxRecDepth 20000 in
theorem am_mt156 : am_mt 156 = mX11_undo := rfl
set_option maxRecDepth 20000 in
theorem am_mt157 : am_mt 157 = mX11_redo := rfl
set_option maxRecDepth 20000 in
theorem am_mt158 : am_mt 158 = mX11_has := rfl
set_option maxRecDepth 20000 in
theorem am_mt159 : am_mt 159 = mX11_hold := rfl
set_option maxRecDepth 20000 in
theorem am_mt160 : am_mt 160 = mX11_feed := rfl
set_option maxRecDepth 20000 in
theorem am_mt161 : am_mt 161 = mX11_isAt := rfl
set_option maxRecDepth 20000 in
theorem am_mt162 : am_mt 162 = mX11_isDigit := rfl
set_option maxRecDepth 20000 in
theorem am_mt163 : am_mt 163 = mX11_number := rfl
set_option maxRecDepth 20000 in
theorem am_mt164 : am_mt 164 = mX11_opens := rfl
set_option maxRecDepth 20000 in
theorem am_mt165 : am_mt 165 = mX11_one := rfl
set_option maxRecDepth 20000 in
theorem am_mt166 : am_mt 166 = mX11_product := rfl
set_option maxRecDepth 20000 in
theorem am_mt167 : am_mt 167 = mX11_total := rfl
set_option maxRecDepth 20000 in
theorem am_mt168 : am_mt 168 = mX11_compared := rfl
set_option maxRecDepth 20000 in
theorem am_mt169 : am_mt 169 = mX11_both := rfl
set_option maxRecDepth 20000 in
theorem am_mt170 : am_mt 170 = mX11_any := rfl
set_option maxRecDepth 20000 in
theorem am_mt171 : am_mt 171 = mX11_gives := rfl
set_option maxRecDepth 20000 in
theorem am_mt172 : am_mt 172 = mX11_law := rfl
set_option maxRecDepth 20000 in
theorem am_mt173 : am_mt 173 = mX11_grows := rfl
set_option maxRecDepth 20000 in
theorem am_mt174 : am_mt 174 = mX11_inAll := rfl
set_option maxRecDepth 20000 in
theorem am_mt175 : am_mt 175 = mX11_cook := rfl
set_option maxRecDepth 20000 in
theorem am_mt176 : am_mt 176 = mX11_begin := rfl
set_option maxRecDepth 20000 in
theorem am_mt177 : am_mt 177 = mX11_boil := rfl
set_option maxRecDepth 20000 in
theorem am_mt178 : am_mt 178 = mX11_ofTastes := rfl
set_option maxRecDepth 20000 in
theorem am_mt179 : am_mt 179 = mX11_far := rfl
set_option maxRecDepth 20000 in
theorem am_mt180 : am_mt 180 = mX11_isShelf := rfl
set_option maxRecDepth 20000 in
theorem am_mt181 : am_mt 181 = mX11_bytesIn := rfl
set_option maxRecDepth 20000 in
theorem am_mt182 : am_mt 182 = mX11_byteAt := rfl
set_option maxRecDepth 20000 in
theorem am_mt183 : am_mt 183 = mX11_readMix := rfl
set_option maxRecDepth 20000 in
theorem am_mt184 : am_mt 184 = mX11_readSoup := rfl
set_option maxRecDepth 20000 in
theorem am_mt185 : am_mt 185 = mX11_load := rfl
set_option maxRecDepth 20000 in
theorem am_mt186 : am_mt 186 = mX11_things := rfl
set_option maxRecDepth 20000 in
theorem am_mt187 : am_mt 187 = mX11_taste := rfl
set_option maxRecDepth 20000 in
theorem am_mt188 : am_mt 188 = mX11_isTwo := rfl
set_option maxRecDepth 20000 in
theorem am_mt189 : am_mt 189 = mX11_best := rfl
set_option maxRecDepth 20000 in
theorem am_mt190 : am_mt 190 = mX11_isHn := rfl
set_option maxRecDepth 20000 in
theorem am_mt191 : am_mt 191 = mX11_setMix := rfl
set_option maxRecDepth 20000 in
theorem am_mt192 : am_mt 192 = mX11_nearest := rfl
set_option maxRecDepth 20000 in
theorem am_mt193 : am_mt 193 = mX11_tells := rfl
set_option maxRecDepth 20000 in
theorem am_mt194 : am_mt 194 = mX11_apart := rfl
set_option maxRecDepth 20000 in
theorem am_mt195 : am_mt 195 = mX11_jury := rfl
set_option maxRecDepth 20000 in
theorem am_mt196 : am_mt 196 = mX11_isTold := rfl
set_option maxRecDepth 20000 in
theorem am_mt197 : am_mt 197 = mX11_inHouse := rfl
set_option maxRecDepth 20000 in
theorem am_mt198 : am_mt 198 = mX11_lent := rfl
set_option maxRecDepth 20000 in
theorem am_mt199 : am_mt 199 = mX11_isAble := rfl
set_option maxRecDepth 20000 in
theorem am_mt200 : am_mt 200 = mX11_whoCould := rfl
set_option maxRecDepth 20000 in
theorem am_mt201 : am_mt 201 = mX11_deal := rfl
set_option maxRecDepth 20000 in
theorem am_mt202 : am_mt 202 = mX11_fires := rfl
set_option maxRecDepth 20000 in
theorem am_mt203 : am_mt 203 = mX11_turns := rfl
set_option maxRecDepth 20000 in
theorem am_mt204 : am_mt 204 = mX11_byTurns := rfl
set_option maxRecDepth 20000 in
theorem am_mt205 : am_mt 205 = mX11_drawn := rfl
set_option maxRecDepth 20000 in
theorem am_mt206 : am_mt 206 = mX11_fact := rfl
set_option maxRecDepth 20000 in
theorem am_mt207 : am_mt 207 = mX11_pot := rfl
set_option maxRecDepth 20000 in
theorem am_mt208 : am_mt 208 = mX11_minute := rfl
set_option maxRecDepth 20000 in
theorem am_mt209 : am_mt 209 = mX11_potOf := rfl
set_option maxRecDepth 20000 in
theorem am_mt210 : am_mt 210 = mX11_spoon := rfl
set_option maxRecDepth 20000 in
theorem am_mt211 : am_mt 211 = mX11_led := rfl
set_option maxRecDepth 20000 in
theorem am_mt212 : am_mt 212 = mX11_image := rfl
set_option maxRecDepth 20000 in
theorem am_mt213 : am_mt 213 = mX11_back := rfl
set_option maxRecDepth 20000 in
theorem am_mt214 : am_mt 214 = mX11_body := rfl
set_option maxRecDepth 20000 in
theorem am_mt215 : am_mt 215 = mX11_does := rfl
set_option maxRecDepth 20000 in
theorem am_mt216 : am_mt 216 = mX11_byKind := rfl
set_option maxRecDepth 20000 in
theorem am_mt217 : am_mt 217 = mX11_act := rfl
set_option maxRecDepth 20000 in
theorem am_mt218 : am_mt 218 = mX11_trace := rfl
set_option maxRecDepth 20000 in
theorem am_mt219 : am_mt 219 = mX11_keep := rfl
set_option maxRecDepth 20000 in
theorem am_mt220 : am_mt 220 = mX11_row := rfl
set_option maxRecDepth 20000 in
theorem am_mt221 : am_mt 221 = mX11_rowAt := rfl
set_option maxRecDepth 20000 in
theorem am_mt222 : am_mt 222 = mX11_put := rfl
set_option maxRecDepth 20000 in
theorem am_mt223 : am_mt 223 = mX11_element := rfl
set_option maxRecDepth 20000 in
theorem am_mt224 : am_mt 224 = mX11_shift := rfl
set_option maxRecDepth 20000 in
theorem am_mt225 : am_mt 225 = mX11_taken := rfl
set_option maxRecDepth 20000 in
theorem am_mt226 : am_mt 226 = mX11_count := rfl
set_option maxRecDepth 20000 in
theorem am_mt227 : am_mt 227 = mJ6_bitCount_0f7a4 := rfl
set_option maxRecDepth 20000 in
theorem am_mt228 : am_mt 228 = mJ9_abs_0f7a4 := rfl
set_option maxRecDepth 20000 in
theorem am_mt229 : am_mt 229 = mJ9_max_7cf53 := rfl
set_option maxRecDepth 20000 in
theorem am_mt230 : am_mt 230 = mJ9_min_7cf53 := rfl
set_option maxRecDepth 20000 in
theorem am_mt231 : am_mt 231 = mJ7_fill_d0a16 := rfl
set_option maxRecDepth 20000 in
theorem am_mt232 : am_mt 232 = mJ7_fill_53178 := rfl
