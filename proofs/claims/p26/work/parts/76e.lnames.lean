set_option maxRecDepth 20000 in
theorem ggL_isBox_X5_box : GoodIn wsL_isBox wsX5_box := goodIn_r _ [5, 6, 7, 8, 9, 191, 192, 193, 194, 195, 196, 197, 198, 199, 200, 201, 202, 203, 204, 205, 206, 207] (by decide +kernel) (by decide +kernel)
set_option maxRecDepth 20000 in
theorem ggL_isBox_L_isBelow : GoodIn wsL_isBox wsL_isBelow := goodIn_r _ [13, 14, 15, 12, 16] (by decide +kernel) (by decide +kernel)
set_option maxRecDepth 20000 in
theorem ggL_isBox_X5_pair : GoodIn wsL_isBox wsX5_pair := goodIn_r _ [20, 6, 8, 21, 22, 23, 24, 25, 26, 27, 28, 29, 30, 31, 32, 33, 34, 35, 36, 37, 38, 39, 40, 41, 42, 43, 191, 192, 193, 194, 195, 196, 197, 198, 199, 200, 201, 202, 203, 204, 205, 206, 207] (by decide +kernel) (by decide +kernel)
set_option maxRecDepth 20000 in
theorem ggL_isBox_L_by : GoodIn wsL_isBox wsL_by := goodIn_r _ [46, 47, 48, 12, 49] (by decide +kernel) (by decide +kernel)
set_option maxRecDepth 20000 in
theorem ggL_isBox_L_ring : GoodIn wsL_isBox wsL_ring := goodIn_r _ [52] (by decide +kernel) (by decide +kernel)
set_option maxRecDepth 20000 in
theorem ggL_isBox_X5_ofBox : GoodIn wsL_isBox wsX5_ofBox := goodIn_r _ [56, 6, 8, 57, 58, 21, 22, 23, 24, 25, 26, 27, 28, 59, 60, 61, 32, 62, 63, 64, 65, 66, 35, 34, 67, 68, 69, 4, 70, 71, 72, 73, 74, 75, 76, 77, 78, 79, 80, 81, 82, 83, 84, 30, 31, 33, 36, 37, 38, 39, 40, 41, 42, 43, 85, 86, 87, 88, 89, 90, 91, 92, 93, 94, 95, 96, 97, 98, 99, 100, 101, 102, 103, 104, 105, 106, 107, 108, 109, 110, 111, 112, 113, 114, 115, 116, 117, 118, 119, 120, 121, 122, 123, 124, 125, 126, 127, 128, 129, 130, 131, 132, 133, 134, 135, 136, 137, 138, 139, 140, 141, 142, 143, 144, 145, 146, 147, 148, 149, 150, 151, 152, 153, 154, 155, 156, 157, 158, 159, 160, 161, 162, 163, 164, 165, 166, 167, 168, 169, 170, 171, 172, 173, 174, 175, 176, 177, 178, 179, 180, 181, 182, 183, 184, 191, 192, 193, 194, 195, 196, 197, 198, 199, 200, 201, 202, 203, 204, 208, 209, 210, 211, 212, 213, 214, 205, 206, 207] (by decide +kernel) (by decide +kernel)
set_option maxRecDepth 20000 in
theorem ggL_isBox_L_volume : GoodIn wsL_isBox wsL_volume := goodIn_r _ [187] (by decide +kernel) (by decide +kernel)
set_option maxRecDepth 20000 in
theorem ggL_isBox_L_ones : GoodIn wsL_isBox wsL_ones := goodIn_r _ [190] (by decide +kernel) (by decide +kernel)
set_option maxRecDepth 20000 in
theorem ggL_isSo_L_read : GoodIn wsL_isSo wsL_read := goodIn_r _ [4, 5, 6, 7, 8, 9, 10, 11, 12, 13, 14, 15, 16, 17, 18, 19, 20, 21, 22, 23, 24, 25, 26, 27, 28, 29, 30, 31, 32, 33, 34, 35, 36, 37, 38, 39, 40, 41, 42, 43, 44, 45, 46, 47, 48, 49, 50, 51, 52, 53, 54, 55, 56, 57, 58, 59, 60, 61, 62, 63, 64, 65, 66, 67, 68, 69, 70, 71, 72, 73, 74, 75, 76, 77, 78, 79, 80, 81, 82, 83, 84, 85, 86, 87, 88, 89, 90, 91, 92, 93, 94, 95, 96, 97, 98, 99, 100, 101, 102, 103, 104, 105, 106, 107, 108, 109, 110, 111, 112, 113, 114, 115, 116, 117, 118, 119, 120, 121, 122, 123, 124, 125, 126, 127, 128, 129, 130, 131, 132, 133, 134, 135, 136, 137, 138, 139, 140, 141, 142, 143, 144, 145, 146, 147, 148, 149, 150, 151, 152, 153, 154, 155, 156, 157, 158, 159, 160, 161, 162, 163, 164, 165, 166, 167, 168, 169, 170, 171, 172, 173, 174, 175, 176, 177, 178, 179, 180, 181, 182, 183, 184, 185, 186, 187, 188, 189, 190, 191, 192, 193, 194, 195, 196, 197, 288, 289, 290, 291, 292, 293, 294, 295, 296, 297, 298, 299, 300, 301, 302, 303, 304, 305, 306, 307, 308, 309, 310, 311, 312, 313, 314, 315, 316, 317] (by decide +kernel) (by decide +kernel)
set_option maxRecDepth 20000 in
theorem ggL_isSo_L_by : GoodIn wsL_isSo wsL_by := goodIn_r _ [200, 201, 202, 3, 203] (by decide +kernel) (by decide +kernel)
set_option maxRecDepth 20000 in
theorem ggL_isSo_L_isAcross : GoodIn wsL_isSo wsL_isAcross := goodIn_r _ [206] (by decide +kernel) (by decide +kernel)
set_option maxRecDepth 20000 in
theorem ggL_isSo_L_overlap : GoodIn wsL_isSo wsL_overlap := goodIn_r _ [203] (by decide +kernel) (by decide +kernel)
