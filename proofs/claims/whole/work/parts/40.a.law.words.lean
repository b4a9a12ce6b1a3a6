set_option maxRecDepth 20000 in
theorem il_X0 : ∀ w ∈ wsX00, w ∈ lw_tbl := fun w h => (goodIn_r wsX00 [290, 292, 294] (by decide +kernel) (by decide +kernel) w h).1
set_option maxRecDepth 20000 in
theorem il_X1 : ∀ w ∈ wsX10, w ∈ lw_tbl := fun w h => (goodIn_r wsX10 [237] (by decide +kernel) (by decide +kernel) w h).1
set_option maxRecDepth 20000 in
theorem il_X2 : ∀ w ∈ wsX20, w ∈ lw_tbl := fun w h => (goodIn_r wsX20 [254, 256, 258, 260, 262] (by decide +kernel) (by decide +kernel) w h).1
set_option maxRecDepth 20000 in
theorem il_X3 : ∀ w ∈ wsX30, w ∈ lw_tbl := fun w h => (goodIn_r wsX30 [309, 311, 313, 315, 317] (by decide +kernel) (by decide +kernel) w h).1
set_option maxRecDepth 20000 in
theorem il_X4 : ∀ w ∈ wsX40, w ∈ lw_tbl := fun w h => (goodIn_r wsX40 [173] (by decide +kernel) (by decide +kernel) w h).1
set_option maxRecDepth 20000 in
theorem il_X5 : ∀ w ∈ wsX50, w ∈ lw_tbl := fun w h => (goodIn_r wsX50 [220, 222, 224] (by decide +kernel) (by decide +kernel) w h).1
set_option maxRecDepth 20000 in
theorem il_X6 : ∀ w ∈ wsX60, w ∈ lw_tbl := fun w h => (goodIn_r wsX60 [202, 204, 206] (by decide +kernel) (by decide +kernel) w h).1
set_option maxRecDepth 20000 in
theorem il_X7 : ∀ w ∈ wsX70, w ∈ lw_tbl := fun w h => (goodIn_r wsX70 [101, 103, 105, 107, 109, 111] (by decide +kernel) (by decide +kernel) w h).1
set_option maxRecDepth 20000 in
theorem il_X8 : ∀ w ∈ wsX80, w ∈ lw_tbl := fun w h => (goodIn_r wsX80 [193, 195] (by decide +kernel) (by decide +kernel) w h).1
set_option maxRecDepth 20000 in
theorem il_X9 : ∀ w ∈ wsX90, w ∈ lw_tbl := fun w h => (goodIn_r wsX90 [142, 144, 146, 148, 150, 152, 154, 156, 158, 160, 162] (by decide +kernel) (by decide +kernel) w h).1
set_option maxRecDepth 20000 in
theorem il_X10 : ∀ w ∈ wsX100, w ∈ lw_tbl := fun w h => (goodIn_r wsX100 [274, 276, 278] (by decide +kernel) (by decide +kernel) w h).1
set_option maxRecDepth 20000 in
theorem il_X11 : ∀ w ∈ wsX110, w ∈ lw_tbl := fun w h => (goodIn_r wsX110 [340, 342, 344, 346, 348, 350, 352, 354, 356, 358, 360, 362, 364, 366, 368, 370] (by decide +kernel) (by decide +kernel) w h).1
set_option maxRecDepth 20000 in
theorem il_X12 : ∀ w ∈ wsX120, w ∈ lw_tbl := fun w h => (goodIn_r wsX120 [953, 955, 957, 959, 961, 963, 965, 967, 969, 971, 973, 975, 977, 979, 981, 983, 985, 987, 989, 991, 993, 995, 997, 999, 1001, 1003, 1005, 1007, 1009, 1011, 1013, 1015, 1017, 1019, 1021, 1023, 1025, 1027, 1029, 1031, 1033, 1035, 1037, 1039] (by decide +kernel) (by decide +kernel) w h).1
set_option maxRecDepth 20000 in
theorem gl_X11_init : GoodIn lw_tbl wsX11_init := goodIn_r _ [83, 84, 85, 86, 114, 324, 325, 326, 87, 88, 65, 327, 115, 116, 66, 328, 329, 165, 166, 67, 330, 331, 176, 177, 68, 332, 209, 210, 71, 333, 228, 229, 72, 334, 240, 241, 73, 335, 336, 265, 266, 74, 337, 281, 282, 75, 338, 297, 298, 76, 339, 90, 91, 92, 93, 94, 95, 96, 97, 99, 118, 119, 120, 121, 124, 127, 131, 133, 135, 137, 138, 139, 140, 141, 168, 169, 170, 171, 179, 180, 181, 182, 183, 69, 198, 199, 200, 184, 185, 186, 187, 188, 189, 70, 190, 191, 192, 212, 213, 214, 215, 217, 218, 227, 219, 216, 231, 232, 233, 234, 242, 243, 244, 245, 251, 246, 247, 248, 249, 250, 268, 269, 270, 271, 272, 273, 284, 285, 286, 287, 288, 289, 300, 301, 302, 303, 304, 305, 306, 307, 320, 322, 0, 64, 323, 340, 342, 344, 346, 348, 350, 352, 354, 356, 358, 360, 362, 364, 366, 368, 370, 101, 103, 105, 107, 109, 111, 142, 144, 146, 148, 150, 152, 154, 156, 158, 160, 162, 173, 202, 204, 206, 220, 222, 224, 237, 254, 256, 258, 260, 262, 274, 276, 278, 290, 292, 294, 309, 311, 313, 315, 317, 193, 195] (by decide +kernel) (by decide +kernel)
set_option maxRecDepth 20000 in
theorem gl_X11_feed : GoodIn lw_tbl (wsV RL 13 RX11 yX11_feed wsX11_feed) := goodIn_r _ [373, 374, 375, 64, 376, 377, 325, 378, 324, 340, 342, 344, 346, 348, 350, 352, 354, 356, 358, 360, 362, 364, 366, 368, 370] (by decide +kernel) (by decide +kernel)
set_option maxRecDepth 20000 in
theorem gl_X11_water : GoodIn lw_tbl (wsV RL 18 RX11 yX11_water wsX11_water) := goodIn_r _ [379, 380, 381, 64, 382, 327, 324, 325, 329, 100, 326, 98, 328, 128, 383, 384, 385, 65, 386, 93, 387, 388, 70, 389, 94, 95, 97, 99, 390, 391, 392, 66, 393, 121, 124, 127, 394, 396, 1, 397, 398, 400, 2, 401, 402, 404, 3, 405, 406, 408, 4, 409, 122, 410, 412, 5, 413, 414, 416, 6, 417, 418, 420, 7, 421, 96, 422, 423, 424, 425, 427, 8, 428, 125, 129, 429, 431, 9, 432, 433, 434, 435, 436, 437, 439, 10, 440, 131, 133, 441, 442, 443, 444, 445, 446, 447, 448, 135, 449, 451, 11, 452, 453, 454, 455, 456, 137, 138, 139, 457, 458, 459, 460, 461, 463, 12, 464, 140, 141, 465, 467, 13, 468, 469, 471, 14, 64, 472, 330, 335, 253, 336, 332, 333, 473, 474, 475, 67, 476, 171, 477, 478, 479, 480, 481, 482, 483, 484, 485, 487, 15, 488, 489, 490, 491, 492, 320, 322, 0, 323, 331, 493, 494, 495, 68, 496, 200, 497, 498, 499, 71, 500, 219, 340, 342, 344, 346, 348, 350, 352, 354, 356, 358, 360, 362, 364, 366, 368, 370, 101, 103, 105, 107, 109, 111, 142, 144, 146, 148, 150, 152, 154, 156, 158, 160, 162, 254, 256, 258, 260, 262, 173, 202, 204, 206, 220, 222, 224] (by decide +kernel) (by decide +kernel)
set_option maxRecDepth 20000 in
theorem gl_X11_fault : GoodIn lw_tbl (wsV RL 23 RX11 yX11_fault wsX11_fault) := goodIn_r _ [501, 502, 503, 64, 504, 326, 340, 342, 344, 346, 348, 350, 352, 354, 356, 358, 360, 362, 364, 366, 368, 370] (by decide +kernel) (by decide +kernel)
set_option maxRecDepth 20000 in
theorem gl_X11_told : GoodIn lw_tbl (wsV RL 27 RX11 yX11_told wsX11_told) := goodIn_r _ [505, 506, 507, 64, 508, 328, 123, 126, 128, 325, 330, 335, 253, 336, 332, 201, 377, 509, 510, 511, 67, 512, 171, 513, 514, 515, 516, 130, 517, 519, 16, 520, 521, 522, 523, 524, 525, 527, 17, 528, 529, 530, 531, 532, 533, 534, 535, 536, 537, 538, 539, 66, 540, 141, 465, 467, 13, 468, 541, 542, 543, 544, 340, 342, 344, 346, 348, 350, 352, 354, 356, 358, 360, 362, 364, 366, 368, 370, 142, 144, 146, 148, 150, 152, 154, 156, 158, 160, 162, 254, 256, 258, 260, 262, 202, 204, 206, 173] (by decide +kernel) (by decide +kernel)
set_option maxRecDepth 20000 in
theorem gl_X11_cut : GoodIn lw_tbl (wsV RL 31 RX11 yX11_cut wsX11_cut) := goodIn_r _ [545, 546, 547, 64, 548, 328, 550, 132, 134, 136, 377, 549, 442, 443, 66, 444, 124, 340, 342, 344, 346, 348, 350, 352, 354, 356, 358, 360, 362, 364, 366, 368, 370, 142, 144, 146, 148, 150, 152, 154, 156, 158, 160, 162] (by decide +kernel) (by decide +kernel)
