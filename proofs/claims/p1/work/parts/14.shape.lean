def SH : sw_S := fun a => if 290 ≤ a then none else if a < 145 then if a < 72 then if a < 36 then if a < 18 then if a < 9 then if a < 4 then if a < 2 then if a < 1 then some (11, [0, 2, 2, 28, 36, 51, 176, 0, 177, 180, 185, 192, 0, 0, 0]) else some (0, [0, 0, 0, 0, 0, 5, 6, 7, 8, 9, 10, 11, 12, 13, 14, 15]) else if a < 3 then some (100, [60]) else some (100, [60]) else if a < 6 then if a < 5 then some (100, [60]) else some (100, [60]) else if a < 7 then some (100, [7]) else if a < 8 then some (100, [6]) else some (100, [6]) else if a < 13 then if a < 11 then if a < 10 then some (100, [6]) else some (100, [6]) else if a < 12 then some (100, [6]) else some (100, [57]) else if a < 15 then if a < 14 then some (0, [0, 0, 0, 0, 0, 17, 18, 19, 20, 21, 22, 23, 24, 25, 26, 27]) else some (100, [60]) else if a < 16 then some (100, [60]) else if a < 17 then some (100, [60]) else some (100, [60]) else if a < 27 then if a < 22 then if a < 20 then if a < 19 then some (100, [7]) else some (100, [6]) else if a < 21 then some (100, [6]) else some (100, [6]) else if a < 24 then if a < 23 then some (100, [6]) else some (100, [6]) else if a < 25 then some (100, [57]) else if a < 26 then some (4, [2, 2, 0, 29, 30, 33]) else some (100, [60]) else if a < 31 then if a < 29 then if a < 28 then some (8, [31, 0, 32, 0, 0, 0]) else some (100, [24]) else if a < 30 then some (100, [42]) else some (8, [34, 0, 35, 0, 0, 0]) else if a < 33 then if a < 32 then some (100, [24]) else some (100, [42]) else if a < 34 then some (3, [37, 39, 46, 49, 50, 0, 0, 0, 0, 2]) else if a < 35 then some (5, [38, 0, 0, 0, 0, 0, 1, 0, 0]) else some (101, [1600]) else if a < 54 then if a < 45 then if a < 40 then if a < 38 then if a < 37 then some (10, [2, 0, 0, 0, 0, 0, 0, 0, 40, 41, 42, 43, 44, 45]) else some (100, [4]) else if a < 39 then some (100, [4]) else some (100, [4]) else if a < 42 then if a < 41 then some (100, [4]) else some (100, [4]) else if a < 43 then some (100, [4]) else if a < 44 then some (2, [2, 47, 48, 0, 0]) else some (100, [270]) else if a < 49 then if a < 47 then if a < 46 then some (100, [31]) else some (103, [6]) else if a < 48 then some (100, [4]) else some (9, [52, 0, 0, 0]) else if a < 51 then if a < 50 then some (105, [41, 50, 3]) else some (8, [54, 0, 55, 0, 0, 0]) else if a < 52 then some (100, [24]) else if a < 53 then some (100, [42]) else some (8, [57, 0, 58, 0, 0, 0]) else if a < 63 then if a < 58 then if a < 56 then if a < 55 then some (100, [24]) else some (100, [42]) else if a < 57 then some (8, [60, 0, 61, 0, 0, 0]) else some (100, [24]) else if a < 60 then if a < 59 then some (100, [42]) else some (8, [63, 0, 64, 0, 0, 0]) else if a < 61 then some (100, [24]) else if a < 62 then some (100, [42]) else some (8, [66, 0, 67, 0, 0, 0]) else if a < 67 then if a < 65 then if a < 64 then some (100, [24]) else some (100, [42]) else if a < 66 then some (8, [69, 0, 70, 0, 0, 0]) else some (100, [24]) else if a < 69 then if a < 68 then some (100, [42]) else some (8, [72, 0, 73, 0, 0, 0]) else if a < 70 then some (100, [24]) else if a < 71 then some (100, [42]) else some (8, [75, 0, 76, 0, 0, 0]) else if a < 108 then if a < 90 then if a < 81 then if a < 76 then if a < 74 then if a < 73 then some (100, [24]) else some (100, [42]) else if a < 75 then some (8, [78, 0, 79, 0, 0, 0]) else some (100, [24]) else if a < 78 then if a < 77 then some (100, [42]) else some (8, [81, 0, 82, 0, 0, 0]) else if a < 79 then some (100, [24]) else if a < 80 then some (100, [42]) else some (8, [84, 0, 85, 0, 0, 0]) else if a < 85 then if a < 83 then if a < 82 then some (100, [24]) else some (100, [42]) else if a < 84 then some (8, [87, 0, 88, 0, 0, 0]) else some (100, [24]) else if a < 87 then if a < 86 then some (100, [42]) else some (8, [90, 0, 91, 0, 0, 0]) else if a < 88 then some (100, [24]) else if a < 89 then some (100, [42]) else some (8, [93, 0, 94, 0, 0, 0]) else if a < 99 then if a < 94 then if a < 92 then if a < 91 then some (100, [24]) else some (100, [42]) else if a < 93 then some (8, [96, 0, 97, 0, 0, 0]) else some (100, [24]) else if a < 96 then if a < 95 then some (100, [42]) else some (8, [99, 0, 100, 0, 0, 0]) else if a < 97 then some (100, [24]) else if a < 98 then some (100, [42]) else some (8, [102, 0, 103, 0, 0, 0]) else if a < 103 then if a < 101 then if a < 100 then some (100, [24]) else some (100, [42]) else if a < 102 then some (8, [105, 0, 106, 0, 0, 0]) else some (100, [24]) else if a < 105 then if a < 104 then some (100, [42]) else some (8, [108, 0, 109, 0, 0, 0]) else if a < 106 then some (100, [24]) else if a < 107 then some (100, [42]) else some (8, [111, 0, 112, 0, 0, 0]) else if a < 126 then if a < 117 then if a < 112 then if a < 110 then if a < 109 then some (100, [24]) else some (100, [42]) else if a < 111 then some (8, [114, 0, 115, 0, 0, 0]) else some (100, [24]) else if a < 114 then if a < 113 then some (100, [42]) else some (8, [117, 0, 118, 0, 0, 0]) else if a < 115 then some (100, [24]) else if a < 116 then some (100, [42]) else some (8, [120, 0, 121, 0, 0, 0]) else if a < 121 then if a < 119 then if a < 118 then some (100, [24]) else some (100, [42]) else if a < 120 then some (8, [123, 0, 124, 0, 0, 0]) else some (100, [24]) else if a < 123 then if a < 122 then some (100, [42]) else some (8, [126, 0, 127, 0, 0, 0]) else if a < 124 then some (100, [24]) else if a < 125 then some (100, [42]) else some (8, [129, 0, 130, 0, 0, 0]) else if a < 135 then if a < 130 then if a < 128 then if a < 127 then some (100, [24]) else some (100, [42]) else if a < 129 then some (8, [132, 0, 133, 0, 0, 0]) else some (100, [24]) else if a < 132 then if a < 131 then some (100, [42]) else some (8, [135, 0, 136, 0, 0, 0]) else if a < 133 then some (100, [24]) else if a < 134 then some (100, [42]) else some (8, [138, 0, 139, 0, 0, 0]) else if a < 140 then if a < 137 then if a < 136 then some (100, [24]) else some (100, [42]) else if a < 138 then some (8, [141, 0, 142, 0, 0, 0]) else if a < 139 then some (100, [24]) else some (100, [42]) else if a < 142 then if a < 141 then some (8, [144, 0, 145, 0, 0, 0]) else some (100, [24]) else if a < 143 then some (100, [42]) else if a < 144 then some (8, [147, 0, 148, 0, 0, 0]) else some (100, [24]) else if a < 217 then if a < 181 then if a < 163 then if a < 154 then if a < 149 then if a < 147 then if a < 146 then some (100, [42]) else some (8, [150, 0, 151, 0, 0, 0]) else if a < 148 then some (100, [24]) else some (100, [42]) else if a < 151 then if a < 150 then some (8, [153, 0, 154, 0, 0, 0]) else some (100, [24]) else if a < 152 then some (100, [42]) else if a < 153 then some (8, [156, 0, 157, 0, 0, 0]) else some (100, [24]) else if a < 158 then if a < 156 then if a < 155 then some (100, [42]) else some (8, [159, 0, 160, 0, 0, 0]) else if a < 157 then some (100, [24]) else some (100, [42]) else if a < 160 then if a < 159 then some (8, [162, 0, 163, 0, 0, 0]) else some (100, [24]) else if a < 161 then some (100, [42]) else if a < 162 then some (8, [165, 0, 166, 0, 0, 0]) else some (100, [24]) else if a < 172 then if a < 167 then if a < 165 then if a < 164 then some (100, [42]) else some (8, [168, 0, 169, 0, 0, 0]) else if a < 166 then some (100, [24]) else some (100, [42]) else if a < 169 then if a < 168 then some (8, [171, 0, 172, 0, 0, 0]) else some (100, [24]) else if a < 170 then some (100, [42]) else if a < 171 then some (8, [174, 0, 175, 0, 0, 0]) else some (100, [24]) else if a < 176 then if a < 174 then if a < 173 then some (100, [42]) else some (105, [3, 215, 3]) else if a < 175 then some (8, [178, 0, 179, 0, 0, 0]) else some (100, [24]) else if a < 178 then if a < 177 then some (100, [42]) else some (1, [181, 182, 183, 184]) else if a < 179 then some (100, [19]) else if a < 180 then some (100, [6]) else some (100, [5]) else if a < 199 then if a < 190 then if a < 185 then if a < 183 then if a < 182 then some (100, [5]) else some (6, [186, 0, 187, 188, 189, 190, 191, 0, 0]) else if a < 184 then some (100, [364]) else some (100, [1024]) else if a < 187 then if a < 186 then some (100, [1024]) else some (100, [1024]) else if a < 188 then some (100, [7]) else if a < 189 then some (100, [364]) else some (7, [193, 200, 208, 211, 212, 213, 214, 215, 0, 216, 0, 217]) else if a < 194 then if a < 192 then if a < 191 then some (10, [2, 0, 0, 0, 0, 0, 0, 0, 194, 195, 196, 197, 198, 199]) else some (100, [4]) else if a < 193 then some (100, [4]) else some (100, [4]) else if a < 196 then if a < 195 then some (100, [4]) else some (100, [4]) else if a < 197 then some (100, [4]) else if a < 198 then some (4, [2, 2, 0, 201, 202, 205]) else some (100, [60]) else if a < 208 then if a < 203 then if a < 201 then if a < 200 then some (8, [203, 0, 204, 0, 0, 0]) else some (100, [24]) else if a < 202 then some (100, [42]) else some (8, [206, 0, 207, 0, 0, 0]) else if a < 205 then if a < 204 then some (100, [24]) else some (100, [42]) else if a < 206 then some (8, [209, 0, 210, 0, 0, 0]) else if a < 207 then some (100, [24]) else some (100, [42]) else if a < 212 then if a < 210 then if a < 209 then some (100, [30]) else some (100, [30]) else if a < 211 then some (102, [30]) else some (100, [30]) else if a < 214 then if a < 213 then some (100, [30]) else some (100, [15]) else if a < 215 then some (100, [15]) else if a < 216 then some (8, [219, 0, 220, 0, 0, 0]) else some (100, [24]) else if a < 253 then if a < 235 then if a < 226 then if a < 221 then if a < 219 then if a < 218 then some (100, [42]) else some (8, [222, 0, 223, 0, 0, 0]) else if a < 220 then some (100, [24]) else some (100, [42]) else if a < 223 then if a < 222 then some (8, [225, 0, 226, 0, 0, 0]) else some (100, [24]) else if a < 224 then some (100, [42]) else if a < 225 then some (12, [228, 229, 0, 0, 0, 0, 0, 0, 0, 0, 1, 230, 231, 232, 233, 234, 235, 236, 237, 238, 239, 240, 241, 242, 243, 244, 245, 246, 247, 248, 249, 250, 251, 252, 253, 254, 0, 0, 0, 0, 0, 0, 255, 256, 257, 258, 259, 260, 261, 262, 263, 0, 0, 0, 0, 0, 0, 0, 0, 0, 0, 264, 265, 266, 267, 268, 269, 0, 0, 0, 0, 0, 270, 0, 0, 271, 272, 273, 274, 0, 275, 276, 277, 0, 0, 0, 278, 279, 280, 281, 282, 283, 284, 285, 286, 287, 288, 289, 290, 0, 0, 291, 292]) else some (101, [1620]) else if a < 230 then if a < 228 then if a < 227 then some (101, [1600]) else some (100, [2]) else if a < 229 then some (100, [2]) else some (100, [2]) else if a < 232 then if a < 231 then some (100, [2]) else some (100, [2]) else if a < 233 then some (100, [2]) else if a < 234 then some (100, [12]) else some (100, [12]) else if a < 244 then if a < 239 then if a < 237 then if a < 236 then some (100, [12]) else some (100, [12]) else if a < 238 then some (100, [12]) else some (100, [12]) else if a < 241 then if a < 240 then some (100, [12]) else some (100, [120]) else if a < 242 then some (100, [120]) else if a < 243 then some (100, [120]) else some (100, [120]) else if a < 248 then if a < 246 then if a < 245 then some (100, [2]) else some (100, [2]) else if a < 247 then some (103, [12]) else some (100, [1120]) else if a < 250 then if a < 249 then some (100, [1120]) else some (100, [90]) else if a < 251 then some (100, [90]) else if a < 252 then some (100, [60]) else some (100, [6]) else if a < 271 then if a < 262 then if a < 257 then if a < 255 then if a < 254 then some (100, [6]) else some (100, [6]) else if a < 256 then some (100, [6]) else some (100, [6]) else if a < 259 then if a < 258 then some (100, [6]) else some (100, [6]) else if a < 260 then some (100, [6]) else if a < 261 then some (100, [6]) else some (100, [34]) else if a < 266 then if a < 264 then if a < 263 then some (100, [96]) else some (100, [96]) else if a < 265 then some (100, [8]) else some (100, [8]) else if a < 268 then if a < 267 then some (100, [48]) else some (100, [1394]) else if a < 269 then some (100, [6]) else if a < 270 then some (100, [24]) else some (100, [364]) else if a < 280 then if a < 275 then if a < 273 then if a < 272 then some (100, [364]) else some (100, [2548]) else if a < 274 then some (100, [7]) else some (100, [64]) else if a < 277 then if a < 276 then some (100, [6]) else some (100, [6]) else if a < 278 then some (100, [6]) else if a < 279 then some (100, [6]) else some (100, [30]) else if a < 285 then if a < 282 then if a < 281 then some (100, [30]) else some (100, [30]) else if a < 283 then some (100, [30]) else if a < 284 then some (100, [30]) else some (100, [30]) else if a < 287 then if a < 286 then some (100, [30]) else some (100, [15]) else if a < 288 then some (102, [15]) else if a < 289 then some (100, [102]) else some (102, [3])
abbrev NH : Nat := 290
theorem s_0 : SH 0 = some (11, [0, 2, 2, 28, 36, 51, 176, 0, 177, 180, 185, 192, 0, 0, 0]) := by decide +kernel
theorem s_1 : SH 1 = some (0, [0, 0, 0, 0, 0, 5, 6, 7, 8, 9, 10, 11, 12, 13, 14, 15]) := by decide +kernel
theorem s_2 : SH 2 = some (100, [60]) := by decide +kernel
theorem s_3 : SH 3 = some (100, [60]) := by decide +kernel
theorem s_4 : SH 4 = some (100, [60]) := by decide +kernel
theorem s_5 : SH 5 = some (100, [60]) := by decide +kernel
theorem s_6 : SH 6 = some (100, [7]) := by decide +kernel
theorem s_7 : SH 7 = some (100, [6]) := by decide +kernel
theorem s_8 : SH 8 = some (100, [6]) := by decide +kernel
theorem s_9 : SH 9 = some (100, [6]) := by decide +kernel
theorem s_10 : SH 10 = some (100, [6]) := by decide +kernel
theorem s_11 : SH 11 = some (100, [6]) := by decide +kernel
theorem s_12 : SH 12 = some (100, [57]) := by decide +kernel
theorem s_13 : SH 13 = some (0, [0, 0, 0, 0, 0, 17, 18, 19, 20, 21, 22, 23, 24, 25, 26, 27]) := by decide +kernel
theorem s_14 : SH 14 = some (100, [60]) := by decide +kernel
theorem s_15 : SH 15 = some (100, [60]) := by decide +kernel
theorem s_16 : SH 16 = some (100, [60]) := by decide +kernel
theorem s_17 : SH 17 = some (100, [60]) := by decide +kernel
theorem s_18 : SH 18 = some (100, [7]) := by decide +kernel
theorem s_19 : SH 19 = some (100, [6]) := by decide +kernel
theorem s_20 : SH 20 = some (100, [6]) := by decide +kernel
theorem s_21 : SH 21 = some (100, [6]) := by decide +kernel
theorem s_22 : SH 22 = some (100, [6]) := by decide +kernel
theorem s_23 : SH 23 = some (100, [6]) := by decide +kernel
theorem s_24 : SH 24 = some (100, [57]) := by decide +kernel
theorem s_25 : SH 25 = some (4, [2, 2, 0, 29, 30, 33]) := by decide +kernel
theorem s_26 : SH 26 = some (100, [60]) := by decide +kernel
theorem s_27 : SH 27 = some (8, [31, 0, 32, 0, 0, 0]) := by decide +kernel
theorem s_28 : SH 28 = some (100, [24]) := by decide +kernel
theorem s_29 : SH 29 = some (100, [42]) := by decide +kernel
theorem s_30 : SH 30 = some (8, [34, 0, 35, 0, 0, 0]) := by decide +kernel
theorem s_31 : SH 31 = some (100, [24]) := by decide +kernel
theorem s_32 : SH 32 = some (100, [42]) := by decide +kernel
theorem s_33 : SH 33 = some (3, [37, 39, 46, 49, 50, 0, 0, 0, 0, 2]) := by decide +kernel
theorem s_34 : SH 34 = some (5, [38, 0, 0, 0, 0, 0, 1, 0, 0]) := by decide +kernel
theorem s_35 : SH 35 = some (101, [1600]) := by decide +kernel
theorem s_36 : SH 36 = some (10, [2, 0, 0, 0, 0, 0, 0, 0, 40, 41, 42, 43, 44, 45]) := by decide +kernel
theorem s_37 : SH 37 = some (100, [4]) := by decide +kernel
theorem s_38 : SH 38 = some (100, [4]) := by decide +kernel
theorem s_39 : SH 39 = some (100, [4]) := by decide +kernel
theorem s_40 : SH 40 = some (100, [4]) := by decide +kernel
theorem s_41 : SH 41 = some (100, [4]) := by decide +kernel
theorem s_42 : SH 42 = some (100, [4]) := by decide +kernel
theorem s_43 : SH 43 = some (2, [2, 47, 48, 0, 0]) := by decide +kernel
theorem s_44 : SH 44 = some (100, [270]) := by decide +kernel
theorem s_45 : SH 45 = some (100, [31]) := by decide +kernel
theorem s_46 : SH 46 = some (103, [6]) := by decide +kernel
theorem s_47 : SH 47 = some (100, [4]) := by decide +kernel
theorem s_48 : SH 48 = some (9, [52, 0, 0, 0]) := by decide +kernel
theorem s_49 : SH 49 = some (105, [41, 50, 3]) := by decide +kernel
theorem s_50 : SH 50 = some (8, [54, 0, 55, 0, 0, 0]) := by decide +kernel
theorem s_51 : SH 51 = some (100, [24]) := by decide +kernel
theorem s_52 : SH 52 = some (100, [42]) := by decide +kernel
theorem s_53 : SH 53 = some (8, [57, 0, 58, 0, 0, 0]) := by decide +kernel
theorem s_54 : SH 54 = some (100, [24]) := by decide +kernel
theorem s_55 : SH 55 = some (100, [42]) := by decide +kernel
theorem s_56 : SH 56 = some (8, [60, 0, 61, 0, 0, 0]) := by decide +kernel
theorem s_57 : SH 57 = some (100, [24]) := by decide +kernel
theorem s_58 : SH 58 = some (100, [42]) := by decide +kernel
theorem s_59 : SH 59 = some (8, [63, 0, 64, 0, 0, 0]) := by decide +kernel
theorem s_60 : SH 60 = some (100, [24]) := by decide +kernel
theorem s_61 : SH 61 = some (100, [42]) := by decide +kernel
theorem s_62 : SH 62 = some (8, [66, 0, 67, 0, 0, 0]) := by decide +kernel
theorem s_63 : SH 63 = some (100, [24]) := by decide +kernel
theorem s_64 : SH 64 = some (100, [42]) := by decide +kernel
theorem s_65 : SH 65 = some (8, [69, 0, 70, 0, 0, 0]) := by decide +kernel
theorem s_66 : SH 66 = some (100, [24]) := by decide +kernel
theorem s_67 : SH 67 = some (100, [42]) := by decide +kernel
theorem s_68 : SH 68 = some (8, [72, 0, 73, 0, 0, 0]) := by decide +kernel
theorem s_69 : SH 69 = some (100, [24]) := by decide +kernel
theorem s_70 : SH 70 = some (100, [42]) := by decide +kernel
theorem s_71 : SH 71 = some (8, [75, 0, 76, 0, 0, 0]) := by decide +kernel
theorem s_72 : SH 72 = some (100, [24]) := by decide +kernel
theorem s_73 : SH 73 = some (100, [42]) := by decide +kernel
theorem s_74 : SH 74 = some (8, [78, 0, 79, 0, 0, 0]) := by decide +kernel
theorem s_75 : SH 75 = some (100, [24]) := by decide +kernel
theorem s_76 : SH 76 = some (100, [42]) := by decide +kernel
theorem s_77 : SH 77 = some (8, [81, 0, 82, 0, 0, 0]) := by decide +kernel
theorem s_78 : SH 78 = some (100, [24]) := by decide +kernel
theorem s_79 : SH 79 = some (100, [42]) := by decide +kernel
theorem s_80 : SH 80 = some (8, [84, 0, 85, 0, 0, 0]) := by decide +kernel
theorem s_81 : SH 81 = some (100, [24]) := by decide +kernel
theorem s_82 : SH 82 = some (100, [42]) := by decide +kernel
theorem s_83 : SH 83 = some (8, [87, 0, 88, 0, 0, 0]) := by decide +kernel
theorem s_84 : SH 84 = some (100, [24]) := by decide +kernel
theorem s_85 : SH 85 = some (100, [42]) := by decide +kernel
theorem s_86 : SH 86 = some (8, [90, 0, 91, 0, 0, 0]) := by decide +kernel
theorem s_87 : SH 87 = some (100, [24]) := by decide +kernel
theorem s_88 : SH 88 = some (100, [42]) := by decide +kernel
theorem s_89 : SH 89 = some (8, [93, 0, 94, 0, 0, 0]) := by decide +kernel
theorem s_90 : SH 90 = some (100, [24]) := by decide +kernel
theorem s_91 : SH 91 = some (100, [42]) := by decide +kernel
theorem s_92 : SH 92 = some (8, [96, 0, 97, 0, 0, 0]) := by decide +kernel
theorem s_93 : SH 93 = some (100, [24]) := by decide +kernel
theorem s_94 : SH 94 = some (100, [42]) := by decide +kernel
theorem s_95 : SH 95 = some (8, [99, 0, 100, 0, 0, 0]) := by decide +kernel
theorem s_96 : SH 96 = some (100, [24]) := by decide +kernel
theorem s_97 : SH 97 = some (100, [42]) := by decide +kernel
theorem s_98 : SH 98 = some (8, [102, 0, 103, 0, 0, 0]) := by decide +kernel
theorem s_99 : SH 99 = some (100, [24]) := by decide +kernel
theorem s_100 : SH 100 = some (100, [42]) := by decide +kernel
theorem s_101 : SH 101 = some (8, [105, 0, 106, 0, 0, 0]) := by decide +kernel
theorem s_102 : SH 102 = some (100, [24]) := by decide +kernel
theorem s_103 : SH 103 = some (100, [42]) := by decide +kernel
theorem s_104 : SH 104 = some (8, [108, 0, 109, 0, 0, 0]) := by decide +kernel
theorem s_105 : SH 105 = some (100, [24]) := by decide +kernel
theorem s_106 : SH 106 = some (100, [42]) := by decide +kernel
theorem s_107 : SH 107 = some (8, [111, 0, 112, 0, 0, 0]) := by decide +kernel
theorem s_108 : SH 108 = some (100, [24]) := by decide +kernel
theorem s_109 : SH 109 = some (100, [42]) := by decide +kernel
theorem s_110 : SH 110 = some (8, [114, 0, 115, 0, 0, 0]) := by decide +kernel
theorem s_111 : SH 111 = some (100, [24]) := by decide +kernel
theorem s_112 : SH 112 = some (100, [42]) := by decide +kernel
theorem s_113 : SH 113 = some (8, [117, 0, 118, 0, 0, 0]) := by decide +kernel
theorem s_114 : SH 114 = some (100, [24]) := by decide +kernel
theorem s_115 : SH 115 = some (100, [42]) := by decide +kernel
theorem s_116 : SH 116 = some (8, [120, 0, 121, 0, 0, 0]) := by decide +kernel
theorem s_117 : SH 117 = some (100, [24]) := by decide +kernel
theorem s_118 : SH 118 = some (100, [42]) := by decide +kernel
theorem s_119 : SH 119 = some (8, [123, 0, 124, 0, 0, 0]) := by decide +kernel
theorem s_120 : SH 120 = some (100, [24]) := by decide +kernel
theorem s_121 : SH 121 = some (100, [42]) := by decide +kernel
theorem s_122 : SH 122 = some (8, [126, 0, 127, 0, 0, 0]) := by decide +kernel
theorem s_123 : SH 123 = some (100, [24]) := by decide +kernel
theorem s_124 : SH 124 = some (100, [42]) := by decide +kernel
theorem s_125 : SH 125 = some (8, [129, 0, 130, 0, 0, 0]) := by decide +kernel
theorem s_126 : SH 126 = some (100, [24]) := by decide +kernel
theorem s_127 : SH 127 = some (100, [42]) := by decide +kernel
theorem s_128 : SH 128 = some (8, [132, 0, 133, 0, 0, 0]) := by decide +kernel
theorem s_129 : SH 129 = some (100, [24]) := by decide +kernel
theorem s_130 : SH 130 = some (100, [42]) := by decide +kernel
theorem s_131 : SH 131 = some (8, [135, 0, 136, 0, 0, 0]) := by decide +kernel
theorem s_132 : SH 132 = some (100, [24]) := by decide +kernel
theorem s_133 : SH 133 = some (100, [42]) := by decide +kernel
theorem s_134 : SH 134 = some (8, [138, 0, 139, 0, 0, 0]) := by decide +kernel
theorem s_135 : SH 135 = some (100, [24]) := by decide +kernel
theorem s_136 : SH 136 = some (100, [42]) := by decide +kernel
theorem s_137 : SH 137 = some (8, [141, 0, 142, 0, 0, 0]) := by decide +kernel
theorem s_138 : SH 138 = some (100, [24]) := by decide +kernel
theorem s_139 : SH 139 = some (100, [42]) := by decide +kernel
theorem s_140 : SH 140 = some (8, [144, 0, 145, 0, 0, 0]) := by decide +kernel
theorem s_141 : SH 141 = some (100, [24]) := by decide +kernel
theorem s_142 : SH 142 = some (100, [42]) := by decide +kernel
theorem s_143 : SH 143 = some (8, [147, 0, 148, 0, 0, 0]) := by decide +kernel
theorem s_144 : SH 144 = some (100, [24]) := by decide +kernel
theorem s_145 : SH 145 = some (100, [42]) := by decide +kernel
theorem s_146 : SH 146 = some (8, [150, 0, 151, 0, 0, 0]) := by decide +kernel
theorem s_147 : SH 147 = some (100, [24]) := by decide +kernel
theorem s_148 : SH 148 = some (100, [42]) := by decide +kernel
theorem s_149 : SH 149 = some (8, [153, 0, 154, 0, 0, 0]) := by decide +kernel
theorem s_150 : SH 150 = some (100, [24]) := by decide +kernel
theorem s_151 : SH 151 = some (100, [42]) := by decide +kernel
theorem s_152 : SH 152 = some (8, [156, 0, 157, 0, 0, 0]) := by decide +kernel
theorem s_153 : SH 153 = some (100, [24]) := by decide +kernel
theorem s_154 : SH 154 = some (100, [42]) := by decide +kernel
theorem s_155 : SH 155 = some (8, [159, 0, 160, 0, 0, 0]) := by decide +kernel
theorem s_156 : SH 156 = some (100, [24]) := by decide +kernel
theorem s_157 : SH 157 = some (100, [42]) := by decide +kernel
theorem s_158 : SH 158 = some (8, [162, 0, 163, 0, 0, 0]) := by decide +kernel
theorem s_159 : SH 159 = some (100, [24]) := by decide +kernel
theorem s_160 : SH 160 = some (100, [42]) := by decide +kernel
theorem s_161 : SH 161 = some (8, [165, 0, 166, 0, 0, 0]) := by decide +kernel
theorem s_162 : SH 162 = some (100, [24]) := by decide +kernel
theorem s_163 : SH 163 = some (100, [42]) := by decide +kernel
theorem s_164 : SH 164 = some (8, [168, 0, 169, 0, 0, 0]) := by decide +kernel
theorem s_165 : SH 165 = some (100, [24]) := by decide +kernel
theorem s_166 : SH 166 = some (100, [42]) := by decide +kernel
theorem s_167 : SH 167 = some (8, [171, 0, 172, 0, 0, 0]) := by decide +kernel
theorem s_168 : SH 168 = some (100, [24]) := by decide +kernel
theorem s_169 : SH 169 = some (100, [42]) := by decide +kernel
theorem s_170 : SH 170 = some (8, [174, 0, 175, 0, 0, 0]) := by decide +kernel
theorem s_171 : SH 171 = some (100, [24]) := by decide +kernel
theorem s_172 : SH 172 = some (100, [42]) := by decide +kernel
theorem s_173 : SH 173 = some (105, [3, 215, 3]) := by decide +kernel
theorem s_174 : SH 174 = some (8, [178, 0, 179, 0, 0, 0]) := by decide +kernel
theorem s_175 : SH 175 = some (100, [24]) := by decide +kernel
theorem s_176 : SH 176 = some (100, [42]) := by decide +kernel
theorem s_177 : SH 177 = some (1, [181, 182, 183, 184]) := by decide +kernel
theorem s_178 : SH 178 = some (100, [19]) := by decide +kernel
theorem s_179 : SH 179 = some (100, [6]) := by decide +kernel
theorem s_180 : SH 180 = some (100, [5]) := by decide +kernel
theorem s_181 : SH 181 = some (100, [5]) := by decide +kernel
theorem s_182 : SH 182 = some (6, [186, 0, 187, 188, 189, 190, 191, 0, 0]) := by decide +kernel
theorem s_183 : SH 183 = some (100, [364]) := by decide +kernel
theorem s_184 : SH 184 = some (100, [1024]) := by decide +kernel
theorem s_185 : SH 185 = some (100, [1024]) := by decide +kernel
theorem s_186 : SH 186 = some (100, [1024]) := by decide +kernel
theorem s_187 : SH 187 = some (100, [7]) := by decide +kernel
theorem s_188 : SH 188 = some (100, [364]) := by decide +kernel
theorem s_189 : SH 189 = some (7, [193, 200, 208, 211, 212, 213, 214, 215, 0, 216, 0, 217]) := by decide +kernel
theorem s_190 : SH 190 = some (10, [2, 0, 0, 0, 0, 0, 0, 0, 194, 195, 196, 197, 198, 199]) := by decide +kernel
theorem s_191 : SH 191 = some (100, [4]) := by decide +kernel
theorem s_192 : SH 192 = some (100, [4]) := by decide +kernel
theorem s_193 : SH 193 = some (100, [4]) := by decide +kernel
theorem s_194 : SH 194 = some (100, [4]) := by decide +kernel
theorem s_195 : SH 195 = some (100, [4]) := by decide +kernel
theorem s_196 : SH 196 = some (100, [4]) := by decide +kernel
theorem s_197 : SH 197 = some (4, [2, 2, 0, 201, 202, 205]) := by decide +kernel
theorem s_198 : SH 198 = some (100, [60]) := by decide +kernel
theorem s_199 : SH 199 = some (8, [203, 0, 204, 0, 0, 0]) := by decide +kernel
theorem s_200 : SH 200 = some (100, [24]) := by decide +kernel
theorem s_201 : SH 201 = some (100, [42]) := by decide +kernel
theorem s_202 : SH 202 = some (8, [206, 0, 207, 0, 0, 0]) := by decide +kernel
theorem s_203 : SH 203 = some (100, [24]) := by decide +kernel
theorem s_204 : SH 204 = some (100, [42]) := by decide +kernel
theorem s_205 : SH 205 = some (8, [209, 0, 210, 0, 0, 0]) := by decide +kernel
theorem s_206 : SH 206 = some (100, [24]) := by decide +kernel
theorem s_207 : SH 207 = some (100, [42]) := by decide +kernel
theorem s_208 : SH 208 = some (100, [30]) := by decide +kernel
theorem s_209 : SH 209 = some (100, [30]) := by decide +kernel
theorem s_210 : SH 210 = some (102, [30]) := by decide +kernel
theorem s_211 : SH 211 = some (100, [30]) := by decide +kernel
theorem s_212 : SH 212 = some (100, [30]) := by decide +kernel
theorem s_213 : SH 213 = some (100, [15]) := by decide +kernel
theorem s_214 : SH 214 = some (100, [15]) := by decide +kernel
theorem s_215 : SH 215 = some (8, [219, 0, 220, 0, 0, 0]) := by decide +kernel
theorem s_216 : SH 216 = some (100, [24]) := by decide +kernel
theorem s_217 : SH 217 = some (100, [42]) := by decide +kernel
theorem s_218 : SH 218 = some (8, [222, 0, 223, 0, 0, 0]) := by decide +kernel
theorem s_219 : SH 219 = some (100, [24]) := by decide +kernel
theorem s_220 : SH 220 = some (100, [42]) := by decide +kernel
theorem s_221 : SH 221 = some (8, [225, 0, 226, 0, 0, 0]) := by decide +kernel
theorem s_222 : SH 222 = some (100, [24]) := by decide +kernel
theorem s_223 : SH 223 = some (100, [42]) := by decide +kernel
theorem s_224 : SH 224 = some (12, [228, 229, 0, 0, 0, 0, 0, 0, 0, 0, 1, 230, 231, 232, 233, 234, 235, 236, 237, 238, 239, 240, 241, 242, 243, 244, 245, 246, 247, 248, 249, 250, 251, 252, 253, 254, 0, 0, 0, 0, 0, 0, 255, 256, 257, 258, 259, 260, 261, 262, 263, 0, 0, 0, 0, 0, 0, 0, 0, 0, 0, 264, 265, 266, 267, 268, 269, 0, 0, 0, 0, 0, 270, 0, 0, 271, 272, 273, 274, 0, 275, 276, 277, 0, 0, 0, 278, 279, 280, 281, 282, 283, 284, 285, 286, 287, 288, 289, 290, 0, 0, 291, 292]) := by decide +kernel
theorem s_225 : SH 225 = some (101, [1620]) := by decide +kernel
theorem s_226 : SH 226 = some (101, [1600]) := by decide +kernel
theorem s_227 : SH 227 = some (100, [2]) := by decide +kernel
theorem s_228 : SH 228 = some (100, [2]) := by decide +kernel
theorem s_229 : SH 229 = some (100, [2]) := by decide +kernel
theorem s_230 : SH 230 = some (100, [2]) := by decide +kernel
theorem s_231 : SH 231 = some (100, [2]) := by decide +kernel
theorem s_232 : SH 232 = some (100, [2]) := by decide +kernel
theorem s_233 : SH 233 = some (100, [12]) := by decide +kernel
theorem s_234 : SH 234 = some (100, [12]) := by decide +kernel
theorem s_235 : SH 235 = some (100, [12]) := by decide +kernel
theorem s_236 : SH 236 = some (100, [12]) := by decide +kernel
theorem s_237 : SH 237 = some (100, [12]) := by decide +kernel
theorem s_238 : SH 238 = some (100, [12]) := by decide +kernel
theorem s_239 : SH 239 = some (100, [12]) := by decide +kernel
theorem s_240 : SH 240 = some (100, [120]) := by decide +kernel
theorem s_241 : SH 241 = some (100, [120]) := by decide +kernel
theorem s_242 : SH 242 = some (100, [120]) := by decide +kernel
theorem s_243 : SH 243 = some (100, [120]) := by decide +kernel
theorem s_244 : SH 244 = some (100, [2]) := by decide +kernel
theorem s_245 : SH 245 = some (100, [2]) := by decide +kernel
theorem s_246 : SH 246 = some (103, [12]) := by decide +kernel
theorem s_247 : SH 247 = some (100, [1120]) := by decide +kernel
theorem s_248 : SH 248 = some (100, [1120]) := by decide +kernel
theorem s_249 : SH 249 = some (100, [90]) := by decide +kernel
theorem s_250 : SH 250 = some (100, [90]) := by decide +kernel
theorem s_251 : SH 251 = some (100, [60]) := by decide +kernel
theorem s_252 : SH 252 = some (100, [6]) := by decide +kernel
theorem s_253 : SH 253 = some (100, [6]) := by decide +kernel
theorem s_254 : SH 254 = some (100, [6]) := by decide +kernel
theorem s_255 : SH 255 = some (100, [6]) := by decide +kernel
theorem s_256 : SH 256 = some (100, [6]) := by decide +kernel
theorem s_257 : SH 257 = some (100, [6]) := by decide +kernel
theorem s_258 : SH 258 = some (100, [6]) := by decide +kernel
theorem s_259 : SH 259 = some (100, [6]) := by decide +kernel
theorem s_260 : SH 260 = some (100, [6]) := by decide +kernel
theorem s_261 : SH 261 = some (100, [34]) := by decide +kernel
theorem s_262 : SH 262 = some (100, [96]) := by decide +kernel
theorem s_263 : SH 263 = some (100, [96]) := by decide +kernel
theorem s_264 : SH 264 = some (100, [8]) := by decide +kernel
theorem s_265 : SH 265 = some (100, [8]) := by decide +kernel
theorem s_266 : SH 266 = some (100, [48]) := by decide +kernel
theorem s_267 : SH 267 = some (100, [1394]) := by decide +kernel
theorem s_268 : SH 268 = some (100, [6]) := by decide +kernel
theorem s_269 : SH 269 = some (100, [24]) := by decide +kernel
theorem s_270 : SH 270 = some (100, [364]) := by decide +kernel
theorem s_271 : SH 271 = some (100, [364]) := by decide +kernel
theorem s_272 : SH 272 = some (100, [2548]) := by decide +kernel
theorem s_273 : SH 273 = some (100, [7]) := by decide +kernel
theorem s_274 : SH 274 = some (100, [64]) := by decide +kernel
theorem s_275 : SH 275 = some (100, [6]) := by decide +kernel
theorem s_276 : SH 276 = some (100, [6]) := by decide +kernel
theorem s_277 : SH 277 = some (100, [6]) := by decide +kernel
theorem s_278 : SH 278 = some (100, [6]) := by decide +kernel
theorem s_279 : SH 279 = some (100, [30]) := by decide +kernel
theorem s_280 : SH 280 = some (100, [30]) := by decide +kernel
theorem s_281 : SH 281 = some (100, [30]) := by decide +kernel
theorem s_282 : SH 282 = some (100, [30]) := by decide +kernel
theorem s_283 : SH 283 = some (100, [30]) := by decide +kernel
theorem s_284 : SH 284 = some (100, [30]) := by decide +kernel
theorem s_285 : SH 285 = some (100, [30]) := by decide +kernel
theorem s_286 : SH 286 = some (100, [15]) := by decide +kernel
theorem s_287 : SH 287 = some (102, [15]) := by decide +kernel
theorem s_288 : SH 288 = some (100, [102]) := by decide +kernel
theorem s_289 : SH 289 = some (102, [3]) := by decide +kernel
abbrev stL : List Nat := [27, 30, 50, 53, 56, 59, 62, 65, 68, 71, 74, 77, 80, 83, 86, 89, 92, 95, 98, 101, 104, 107, 110, 113, 116, 119, 122, 125, 128, 131, 134, 137, 140, 143, 146, 149, 152, 155, 158, 161, 164, 167, 170, 174, 199, 202, 205, 215, 218, 221]
theorem s_St : ∀ o ∈ stL, SH o = some (8, [o + 4, 0, o + 5, 0, 0, 0]) ∧ SH (o + 1) = some (100, [24]) ∧ SH (o + 2) = some (100, [42]) ∧ o + 2 < 290 := by decide +kernel
