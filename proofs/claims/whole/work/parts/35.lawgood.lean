set_option maxRecDepth 20000 in
theorem ggL_law_X6_init : GoodIn wsL_law wsX6_init := goodIn_r _ [8, 9, 10, 11, 12, 13, 14, 15, 16, 17, 18, 19, 20, 21, 22, 23, 24, 25, 26, 27, 28, 29, 30, 31, 32, 33, 34, 35, 36, 37, 38, 39, 40, 41, 42, 43, 44, 45, 46, 47, 48, 49, 50, 51, 52, 53, 54, 55, 56, 57, 58, 59, 60, 61, 62, 63, 64, 65, 66, 67, 68, 69, 70, 71, 72, 73, 74, 75, 76, 77, 78, 79, 80, 81, 82, 83, 84, 85, 86, 87, 88, 89, 90, 91, 92, 93, 94, 95, 96, 97, 98, 99, 100, 101, 102, 658, 659, 660, 661, 662, 663, 638, 639, 640, 641, 642, 643, 664, 665, 666, 667, 668, 669, 670, 671, 672, 673, 674, 675, 676, 677, 678, 679, 680, 681, 682, 683] (by decide +kernel) (by decide +kernel)
set_option maxRecDepth 20000 in
theorem gL_law_X6_init : GoodIn wsL_law (wsX6_init) := ggL_law_X6_init
set_option maxRecDepth 20000 in
theorem ggL_law_X7_init : GoodIn wsL_law wsX7_init := goodIn_r _ [105, 106, 10, 11, 107, 40, 108, 109, 43, 110, 111, 112, 113, 114, 115, 116, 117, 118, 119, 120, 121, 5, 122, 123, 124, 644, 645, 646, 647, 648, 649, 650, 651, 652, 653, 654, 655, 656, 657] (by decide +kernel) (by decide +kernel)
set_option maxRecDepth 20000 in
theorem gL_law_X7_init : GoodIn wsL_law (wsX7_init) := ggL_law_X7_init
set_option maxRecDepth 20000 in
theorem ggL_law_X6_line : GoodIn wsL_law wsX6_line := goodIn_r _ [128, 15, 35, 129, 130, 131, 14, 132, 50, 133, 47, 48, 49, 41, 42, 44, 51, 52, 53, 54, 45, 55, 134, 135, 136, 34, 137, 100, 138, 139, 140, 2, 141, 27, 31, 142, 143, 144, 26, 145, 83, 146, 147, 148, 30, 149, 92, 638, 639, 640, 641, 642, 643, 658, 659, 660, 661, 662, 663, 680, 681, 682, 683, 667, 668, 669, 670, 671, 672, 673, 674, 675, 676, 677, 678, 679] (by decide +kernel) (by decide +kernel)
set_option maxRecDepth 20000 in
theorem gL_law_X6_line : GoodIn wsL_law (wsV RL 13 RX6 yX6_line wsX6_line) := goodIn_app (goodIn_of _ (by decide +kernel)) ggL_law_X6_line
set_option maxRecDepth 20000 in
theorem ggL_law_X7_line : GoodIn wsL_law wsX7_line := goodIn_r _ [153, 107, 154, 155, 5, 156, 119, 120, 121, 122, 108, 109, 110, 123, 124, 644, 645, 646, 647, 648, 649, 650, 651, 652, 653, 654, 655, 656, 657] (by decide +kernel) (by decide +kernel)
set_option maxRecDepth 20000 in
theorem gL_law_X7_line : GoodIn wsL_law (wsV RL 17 RX7 yX7_line wsX7_line) := goodIn_app (goodIn_of _ (by decide +kernel)) ggL_law_X7_line
set_option maxRecDepth 20000 in
theorem ggL_law_X6_cell : GoodIn wsL_law wsX6_cell := goodIn_r _ [160, 15, 161, 162, 163, 14, 164, 50, 165, 166, 167, 168, 42, 169, 170, 171, 172, 41, 138, 139, 140, 2, 141, 27, 31, 142, 143, 144, 26, 145, 83, 146, 147, 148, 30, 149, 92, 638, 639, 640, 641, 642, 643, 658, 659, 660, 661, 662, 663, 667, 668, 669, 670, 671, 672, 673, 674, 675, 676, 677, 678, 679] (by decide +kernel) (by decide +kernel)
set_option maxRecDepth 20000 in
theorem gL_law_X6_cell : GoodIn wsL_law (wsV RL 18 RX6 yX6_cell wsX6_cell) := goodIn_app (goodIn_of _ (by decide +kernel)) ggL_law_X6_cell
set_option maxRecDepth 20000 in
theorem ggL_law_X7_cell : GoodIn wsL_law wsX7_cell := goodIn_r _ [176, 109, 108, 124, 177, 178, 179, 5, 180, 107, 154, 155, 156, 644, 645, 646, 647, 648, 649, 650, 651, 652, 653, 654, 655, 656, 657] (by decide +kernel) (by decide +kernel)
set_option maxRecDepth 20000 in
theorem gL_law_X7_cell : GoodIn wsL_law (wsV RL 22 RX7 yX7_cell wsX7_cell) := goodIn_app (goodIn_of _ (by decide +kernel)) ggL_law_X7_cell
set_option maxRecDepth 20000 in
theorem ggL_law_X6_stop : GoodIn wsL_law wsX6_stop := goodIn_r _ [184, 15, 185, 186, 187, 14, 188, 50, 189, 190, 191, 192, 193, 194, 195, 196, 44, 51, 52, 53, 54, 45, 55, 138, 139, 140, 2, 141, 27, 31, 142, 143, 144, 26, 145, 83, 146, 147, 148, 30, 149, 92, 197, 198, 199, 200, 638, 639, 640, 641, 642, 643, 658, 659, 660, 661, 662, 663, 667, 668, 669, 670, 671, 672, 673, 674, 675, 676, 677, 678, 679] (by decide +kernel) (by decide +kernel)
set_option maxRecDepth 20000 in
theorem gL_law_X6_stop : GoodIn wsL_law (wsV RL 23 RX6 yX6_stop wsX6_stop) := goodIn_app (goodIn_of _ (by decide +kernel)) ggL_law_X6_stop
set_option maxRecDepth 20000 in
theorem ggL_law_X7_stop : GoodIn wsL_law wsX7_stop := goodIn_r _ [204, 107, 110, 124, 154, 155, 5, 156, 205, 206, 207, 208, 644, 645, 646, 647, 648, 649, 650, 651, 652, 653, 654, 655, 656, 657] (by decide +kernel) (by decide +kernel)
set_option maxRecDepth 20000 in
theorem gL_law_X7_stop : GoodIn wsL_law (wsV RL 27 RX7 yX7_stop wsX7_stop) := goodIn_app (goodIn_of _ (by decide +kernel)) ggL_law_X7_stop
set_option maxRecDepth 20000 in
theorem ggL_law_X6_train : GoodIn wsL_law wsX6_train := goodIn_r _ [212, 19, 213, 214, 215, 18, 216, 66, 217, 218, 219, 220, 221, 222, 223, 224, 225, 226, 227, 228, 229, 230, 138, 139, 140, 2, 141, 27, 31, 142, 143, 144, 26, 145, 83, 146, 147, 148, 30, 149, 92, 638, 639, 640, 641, 642, 643, 664, 667, 668, 669, 670, 671, 672, 673, 674, 675, 676, 677, 678, 679] (by decide +kernel) (by decide +kernel)
set_option maxRecDepth 20000 in
theorem gL_law_X6_train : GoodIn wsL_law (wsV RL 28 RX6 yX6_train wsX6_train) := goodIn_app (goodIn_of _ (by decide +kernel)) ggL_law_X6_train
set_option maxRecDepth 20000 in
theorem ggL_law_X7_train : GoodIn wsL_law wsX7_train := goodIn_r _ [234, 111, 124, 154, 155, 5, 156, 644, 645, 646, 647, 648, 649, 650, 651, 652, 653, 654, 655, 656, 657] (by decide +kernel) (by decide +kernel)
set_option maxRecDepth 20000 in
theorem gL_law_X7_train : GoodIn wsL_law (wsV RL 32 RX7 yX7_train wsX7_train) := goodIn_app (goodIn_of _ (by decide +kernel)) ggL_law_X7_train
set_option maxRecDepth 20000 in
theorem ggL_law_X6_has : GoodIn wsL_law wsX6_has := goodIn_r _ [238, 19, 213, 214, 215, 18, 216, 66, 223, 224, 225, 226, 638, 639, 640, 641, 642, 643, 664] (by decide +kernel) (by decide +kernel)
set_option maxRecDepth 20000 in
theorem gL_law_X6_has : GoodIn wsL_law (wsV RL 33 RX6 yX6_has wsX6_has) := goodIn_app (goodIn_of _ (by decide +kernel)) ggL_law_X6_has
set_option maxRecDepth 20000 in
theorem ggL_law_X7_has : GoodIn wsL_law wsX7_has := goodIn_r _ [242, 111, 154, 155, 5, 156, 644, 645, 646, 647, 648, 649, 650, 651, 652, 653, 654, 655, 656, 657] (by decide +kernel) (by decide +kernel)
set_option maxRecDepth 20000 in
theorem gL_law_X7_has : GoodIn wsL_law (wsV RL 36 RX7 yX7_has wsX7_has) := goodIn_app (goodIn_of _ (by decide +kernel)) ggL_law_X7_has
set_option maxRecDepth 20000 in
theorem ggL_law_X6_leg : GoodIn wsL_law wsX6_leg := goodIn_r _ [246, 15, 247, 248, 249, 14, 250, 55, 251, 252, 253, 254, 45, 255, 256, 257, 258, 638, 639, 640, 641, 642, 643, 658, 659, 660, 661, 662, 663] (by decide +kernel) (by decide +kernel)
set_option maxRecDepth 20000 in
theorem gL_law_X6_leg : GoodIn wsL_law (wsV RL 37 RX6 yX6_leg wsX6_leg) := goodIn_app (goodIn_of _ (by decide +kernel)) ggL_law_X6_leg
set_option maxRecDepth 20000 in
theorem ggL_law_X7_leg : GoodIn wsL_law wsX7_leg := goodIn_r _ [262, 263, 264, 265, 5, 266, 205, 206, 207, 208, 107, 110, 154, 155, 156, 267, 268, 269, 270, 271, 272, 273, 274, 644, 645, 646, 647, 648, 649, 650, 651, 652, 653, 654, 655, 656, 657] (by decide +kernel) (by decide +kernel)
set_option maxRecDepth 20000 in
theorem gL_law_X7_leg : GoodIn wsL_law (wsV RL 40 RX7 yX7_leg wsX7_leg) := goodIn_app (goodIn_of _ (by decide +kernel)) ggL_law_X7_leg
set_option maxRecDepth 20000 in
theorem ggL_law_X6_force : GoodIn wsL_law wsX6_force := goodIn_r _ [278, 23, 279, 280, 281, 2, 282, 15, 161, 162, 163, 14, 164, 50, 283, 284, 285, 286, 287, 288, 22, 289, 72, 71, 290, 224, 225, 18, 226, 66, 291, 292, 293, 294, 41, 638, 639, 640, 641, 642, 643, 658, 659, 660, 661, 662, 663, 665, 666, 664] (by decide +kernel) (by decide +kernel)
set_option maxRecDepth 20000 in
theorem gL_law_X6_force : GoodIn wsL_law (wsV RL 41 RX6 yX6_force wsX6_force) := goodIn_app (goodIn_of _ (by decide +kernel)) ggL_law_X6_force
set_option maxRecDepth 20000 in
theorem ggL_law_X7_force : GoodIn wsL_law wsX7_force := goodIn_r _ [298, 177, 178, 179, 5, 180, 107, 154, 155, 156, 299, 300, 301, 302, 303, 304, 305, 111, 108, 644, 645, 646, 647, 648, 649, 650, 651, 652, 653, 654, 655, 656, 657] (by decide +kernel) (by decide +kernel)
set_option maxRecDepth 20000 in
theorem gL_law_X7_force : GoodIn wsL_law (wsV RL 44 RX7 yX7_force wsX7_force) := goodIn_app (goodIn_of _ (by decide +kernel)) ggL_law_X7_force
set_option maxRecDepth 20000 in
theorem ggL_law_X6_fault : GoodIn wsL_law wsX6_fault := goodIn_r _ [309, 23, 279, 280, 281, 2, 282, 15, 161, 162, 163, 14, 164, 50, 283, 284, 285, 310, 311, 312, 22, 313, 314, 315, 316, 317, 71, 318, 319, 320, 72, 321, 166, 167, 168, 42, 322, 287, 288, 289, 290, 224, 225, 18, 226, 66, 291, 292, 293, 294, 41, 638, 639, 640, 641, 642, 643, 658, 659, 660, 661, 662, 663, 665, 666, 664] (by decide +kernel) (by decide +kernel)
set_option maxRecDepth 20000 in
theorem gL_law_X6_fault : GoodIn wsL_law (wsV RL 45 RX6 yX6_fault wsX6_fault) := goodIn_app (goodIn_of _ (by decide +kernel)) ggL_law_X6_fault
set_option maxRecDepth 20000 in
theorem ggL_law_X7_fault : GoodIn wsL_law wsX7_fault := goodIn_r _ [326, 177, 178, 179, 5, 180, 107, 154, 155, 156, 299, 300, 301, 327, 328, 329, 330, 109, 111, 302, 303, 304, 305, 108, 644, 645, 646, 647, 648, 649, 650, 651, 652, 653, 654, 655, 656, 657] (by decide +kernel) (by decide +kernel)
set_option maxRecDepth 20000 in
theorem gL_law_X7_fault : GoodIn wsL_law (wsV RL 48 RX7 yX7_fault wsX7_fault) := goodIn_app (goodIn_of _ (by decide +kernel)) ggL_law_X7_fault
set_option maxRecDepth 20000 in
theorem ggL_law_X6_time : GoodIn wsL_law wsX6_time := goodIn_r _ [334, 23, 335, 279, 280, 281, 2, 282, 15, 161, 162, 163, 14, 164, 50, 283, 284, 285, 310, 311, 312, 22, 313, 314, 315, 316, 317, 71, 318, 319, 320, 72, 321, 166, 167, 168, 42, 322, 287, 288, 289, 290, 224, 225, 18, 226, 66, 291, 292, 293, 294, 41, 336, 337, 338, 339, 638, 639, 640, 641, 642, 643, 658, 659, 660, 661, 662, 663, 665, 666, 664] (by decide +kernel) (by decide +kernel)
set_option maxRecDepth 20000 in
theorem gL_law_X6_time : GoodIn wsL_law (wsV RL 49 RX6 yX6_time wsX6_time) := goodIn_app (goodIn_of _ (by decide +kernel)) ggL_law_X6_time
set_option maxRecDepth 20000 in
theorem ggL_law_X7_time : GoodIn wsL_law wsX7_time := goodIn_r _ [343, 344, 345, 324, 325, 5, 326, 177, 178, 179, 180, 107, 154, 155, 156, 299, 300, 301, 327, 328, 329, 330, 109, 111, 302, 303, 304, 305, 108, 644, 645, 646, 647, 648, 649, 650, 651, 652, 653, 654, 655, 656, 657] (by decide +kernel) (by decide +kernel)
set_option maxRecDepth 20000 in
theorem gL_law_X7_time : GoodIn wsL_law (wsV RL 52 RX7 yX7_time wsX7_time) := goodIn_app (goodIn_of _ (by decide +kernel)) ggL_law_X7_time
set_option maxRecDepth 20000 in
theorem ggL_law_X6_power : GoodIn wsL_law wsX6_power := goodIn_r _ [349, 23, 335, 279, 280, 281, 2, 282, 15, 161, 162, 163, 14, 164, 50, 283, 284, 285, 310, 311, 312, 22, 313, 314, 315, 316, 317, 71, 318, 319, 320, 72, 321, 166, 167, 168, 42, 322, 287, 288, 289, 290, 224, 225, 18, 226, 66, 291, 292, 293, 294, 41, 350, 351, 352, 353, 638, 639, 640, 641, 642, 643, 658, 659, 660, 661, 662, 663, 665, 666, 664] (by decide +kernel) (by decide +kernel)
set_option maxRecDepth 20000 in
theorem gL_law_X6_power : GoodIn wsL_law (wsV RL 53 RX6 yX6_power wsX6_power) := goodIn_app (goodIn_of _ (by decide +kernel)) ggL_law_X6_power
set_option maxRecDepth 20000 in
theorem ggL_law_X7_power : GoodIn wsL_law wsX7_power := goodIn_r _ [357, 344, 345, 324, 325, 5, 326, 177, 178, 179, 180, 107, 154, 155, 156, 299, 300, 301, 327, 328, 329, 330, 109, 111, 302, 303, 304, 305, 108, 358, 359, 360, 361, 644, 645, 646, 647, 648, 649, 650, 651, 652, 653, 654, 655, 656, 657] (by decide +kernel) (by decide +kernel)
set_option maxRecDepth 20000 in
theorem gL_law_X7_power : GoodIn wsL_law (wsV RL 56 RX7 yX7_power wsX7_power) := goodIn_app (goodIn_of _ (by decide +kernel)) ggL_law_X7_power
set_option maxRecDepth 20000 in
theorem ggL_law_X6_fastest : GoodIn wsL_law wsX6_fastest := goodIn_r _ [365, 15, 27, 335, 247, 248, 249, 14, 250, 55, 366, 367, 368, 26, 369, 83, 84, 80, 370, 198, 199, 200, 371, 372, 373, 374, 78, 79, 375, 376, 256, 257, 258, 45, 377, 252, 253, 254, 378, 379, 380, 381, 382, 383, 384, 385, 85, 386, 311, 312, 22, 313, 314, 315, 316, 317, 71, 318, 319, 320, 72, 321, 166, 167, 168, 42, 322, 287, 288, 289, 290, 224, 225, 18, 226, 66, 291, 292, 293, 294, 41, 387, 351, 352, 353, 388, 389, 390, 391, 337, 338, 339, 392, 393, 394, 395, 396, 397, 398, 399, 400, 401, 402, 81, 82, 403, 404, 405, 406, 407, 408, 409, 410, 638, 639, 640, 641, 642, 643, 658, 659, 660, 661, 662, 663, 667, 668, 669, 670, 671, 672, 673, 674, 665, 666, 664] (by decide +kernel) (by decide +kernel)
set_option maxRecDepth 20000 in
theorem gL_law_X6_fastest : GoodIn wsL_law (wsV RL 57 RX6 yX6_fastest wsX6_fastest) := goodIn_app (goodIn_of _ (by decide +kernel)) ggL_law_X6_fastest
set_option maxRecDepth 20000 in
theorem ggL_law_X7_fastest : GoodIn wsL_law wsX7_fastest := goodIn_r _ [414, 114, 415, 344, 263, 264, 265, 5, 266, 205, 206, 207, 208, 107, 110, 154, 155, 156, 416, 417, 418, 419, 271, 272, 273, 274, 267, 268, 269, 270, 420, 421, 422, 423, 327, 328, 329, 330, 109, 111, 302, 303, 304, 305, 108, 424, 425, 426, 427, 358, 359, 360, 361, 644, 645, 646, 647, 648, 649, 650, 651, 652, 653, 654, 655, 656, 657] (by decide +kernel) (by decide +kernel)
set_option maxRecDepth 20000 in
theorem gL_law_X7_fastest : GoodIn wsL_law (wsV RL 60 RX7 yX7_fastest wsX7_fastest) := goodIn_app (goodIn_of _ (by decide +kernel)) ggL_law_X7_fastest
set_option maxRecDepth 20000 in
theorem ggL_law_X6_best : GoodIn wsL_law wsX6_best := goodIn_r _ [431, 27, 335, 432, 433, 434, 2, 435, 15, 247, 248, 249, 14, 250, 55, 436, 437, 438, 366, 367, 368, 26, 369, 83, 84, 80, 370, 198, 199, 200, 371, 372, 373, 374, 78, 79, 375, 376, 256, 257, 258, 45, 377, 252, 253, 254, 378, 379, 380, 381, 382, 383, 384, 385, 85, 386, 311, 312, 22, 313, 314, 315, 316, 317, 71, 318, 319, 320, 72, 321, 166, 167, 168, 42, 322, 287, 288, 289, 290, 224, 225, 18, 226, 66, 291, 292, 293, 294, 41, 387, 351, 352, 353, 388, 389, 390, 391, 337, 338, 339, 392, 393, 394, 395, 396, 397, 398, 399, 400, 401, 402, 81, 82, 439, 440, 441, 442, 443, 404, 405, 406, 444, 408, 409, 410, 445, 446, 447, 448, 638, 639, 640, 641, 642, 643, 658, 659, 660, 661, 662, 663, 667, 668, 669, 670, 671, 672, 673, 674, 665, 666, 664] (by decide +kernel) (by decide +kernel)
set_option maxRecDepth 20000 in
theorem gL_law_X6_best : GoodIn wsL_law (wsV RL 61 RX6 yX6_best wsX6_best) := goodIn_app (goodIn_of _ (by decide +kernel)) ggL_law_X6_best
set_option maxRecDepth 20000 in
theorem ggL_law_X7_best : GoodIn wsL_law wsX7_best := goodIn_r _ [452, 114, 453, 454, 455, 5, 456, 263, 264, 265, 266, 205, 206, 207, 208, 107, 110, 154, 155, 156, 416, 417, 418, 419, 415, 271, 272, 273, 274, 267, 268, 269, 270, 420, 421, 422, 423, 327, 328, 329, 330, 109, 111, 302, 303, 304, 305, 108, 424, 425, 426, 427, 358, 359, 360, 361, 457, 458, 459, 460, 344, 644, 645, 646, 647, 648, 649, 650, 651, 652, 653, 654, 655, 656, 657] (by decide +kernel) (by decide +kernel)
set_option maxRecDepth 20000 in
theorem gL_law_X7_best : GoodIn wsL_law (wsV RL 64 RX7 yX7_best wsX7_best) := goodIn_app (goodIn_of _ (by decide +kernel)) ggL_law_X7_best
set_option maxRecDepth 20000 in
theorem ggL_law_X6_bestTime : GoodIn wsL_law wsX6_bestTime := goodIn_r _ [464, 27, 335, 432, 433, 434, 2, 435, 15, 247, 248, 249, 14, 250, 55, 436, 437, 438, 366, 367, 368, 26, 369, 83, 84, 80, 370, 198, 199, 200, 371, 372, 373, 374, 78, 79, 375, 376, 256, 257, 258, 45, 377, 252, 253, 254, 378, 379, 380, 381, 382, 383, 384, 385, 85, 386, 311, 312, 22, 313, 314, 315, 316, 317, 71, 318, 319, 320, 72, 321, 166, 167, 168, 42, 322, 287, 288, 289, 290, 224, 225, 18, 226, 66, 291, 292, 293, 294, 41, 387, 351, 352, 353, 388, 389, 390, 391, 337, 338, 339, 392, 393, 394, 395, 396, 397, 398, 399, 400, 401, 402, 81, 82, 439, 440, 441, 442, 443, 404, 405, 406, 444, 408, 409, 410, 407, 638, 639, 640, 641, 642, 643, 658, 659, 660, 661, 662, 663, 667, 668, 669, 670, 671, 672, 673, 674, 665, 666, 664] (by decide +kernel) (by decide +kernel)
set_option maxRecDepth 20000 in
theorem gL_law_X6_bestTime : GoodIn wsL_law (wsV RL 65 RX6 yX6_bestTime wsX6_bestTime) := goodIn_app (goodIn_of _ (by decide +kernel)) ggL_law_X6_bestTime
set_option maxRecDepth 20000 in
theorem ggL_law_X7_bestTime : GoodIn wsL_law wsX7_bestTime := goodIn_r _ [456, 263, 264, 265, 5, 266, 205, 206, 207, 208, 107, 110, 154, 155, 156, 416, 417, 418, 419, 114, 415, 271, 272, 273, 274, 267, 268, 269, 270, 420, 421, 422, 423, 327, 328, 329, 330, 109, 111, 302, 303, 304, 305, 108, 424, 425, 426, 427, 358, 359, 360, 361, 457, 458, 459, 460, 344, 644, 645, 646, 647, 648, 649, 650, 651, 652, 653, 654, 655, 656, 657] (by decide +kernel) (by decide +kernel)
set_option maxRecDepth 20000 in
theorem gL_law_X7_bestTime : GoodIn wsL_law (wsV RL 68 RX7 yX7_bestTime wsX7_bestTime) := goodIn_app (goodIn_of _ (by decide +kernel)) ggL_law_X7_bestTime
set_option maxRecDepth 20000 in
theorem ggL_law_X6_bestSpeed : GoodIn wsL_law wsX6_bestSpeed := goodIn_r _ [469, 15, 335, 27, 247, 248, 249, 14, 250, 55, 185, 186, 187, 188, 50, 436, 437, 2, 438, 255, 256, 257, 258, 45, 251, 252, 253, 254, 366, 367, 368, 26, 369, 83, 84, 80, 370, 198, 199, 200, 371, 372, 373, 374, 78, 79, 375, 376, 377, 378, 379, 380, 381, 382, 383, 384, 385, 85, 386, 311, 312, 22, 313, 314, 315, 316, 317, 71, 318, 319, 320, 72, 321, 166, 167, 168, 42, 322, 287, 288, 289, 290, 224, 225, 18, 226, 66, 291, 292, 293, 294, 41, 387, 351, 352, 353, 388, 389, 390, 391, 337, 338, 339, 392, 393, 394, 395, 396, 397, 398, 399, 400, 401, 402, 81, 82, 439, 440, 441, 442, 443, 404, 405, 406, 444, 408, 409, 410, 470, 471, 472, 473, 638, 639, 640, 641, 642, 643, 658, 659, 660, 661, 662, 663, 667, 668, 669, 670, 671, 672, 673, 674, 665, 666, 664] (by decide +kernel) (by decide +kernel)
set_option maxRecDepth 20000 in
theorem gL_law_X6_bestSpeed : GoodIn wsL_law (wsV RL 69 RX6 yX6_bestSpeed wsX6_bestSpeed) := goodIn_app (goodIn_of _ (by decide +kernel)) ggL_law_X6_bestSpeed
set_option maxRecDepth 20000 in
theorem ggL_law_X7_bestSpeed : GoodIn wsL_law wsX7_bestSpeed := goodIn_r _ [477, 107, 344, 263, 264, 265, 5, 266, 205, 206, 207, 208, 110, 154, 155, 156, 416, 417, 418, 419, 114, 415, 271, 272, 273, 274, 267, 268, 269, 270, 420, 421, 422, 423, 327, 328, 329, 330, 109, 111, 302, 303, 304, 305, 108, 424, 425, 426, 427, 358, 359, 360, 361, 457, 458, 459, 460, 478, 479, 480, 481, 644, 645, 646, 647, 648, 649, 650, 651, 652, 653, 654, 655, 656, 657] (by decide +kernel) (by decide +kernel)
set_option maxRecDepth 20000 in
theorem gL_law_X7_bestSpeed : GoodIn wsL_law (wsV RL 72 RX7 yX7_bestSpeed wsX7_bestSpeed) := goodIn_app (goodIn_of _ (by decide +kernel)) ggL_law_X7_bestSpeed
set_option maxRecDepth 20000 in
theorem ggL_law_X6_curve : GoodIn wsL_law wsX6_curve := goodIn_r _ [485, 15, 27, 247, 248, 249, 14, 250, 55, 366, 367, 368, 26, 369, 83, 84, 80, 370, 198, 199, 200, 371, 372, 373, 374, 78, 79, 375, 376, 256, 257, 258, 45, 377, 252, 253, 254, 378, 379, 380, 381, 382, 383, 384, 385, 85, 386, 311, 312, 22, 313, 314, 315, 316, 317, 71, 318, 319, 320, 72, 321, 166, 167, 168, 42, 322, 287, 288, 289, 290, 224, 225, 18, 226, 66, 291, 292, 293, 294, 41, 387, 351, 352, 353, 388, 389, 390, 391, 337, 338, 339, 392, 393, 394, 395, 396, 397, 398, 399, 400, 401, 402, 81, 82, 403, 404, 405, 406, 638, 639, 640, 641, 642, 643, 658, 659, 660, 661, 662, 663, 667, 668, 669, 670, 671, 672, 673, 674, 665, 666, 664] (by decide +kernel) (by decide +kernel)
set_option maxRecDepth 20000 in
theorem gL_law_X6_curve : GoodIn wsL_law (wsV RL 73 RX6 yX6_curve wsX6_curve) := goodIn_app (goodIn_of _ (by decide +kernel)) ggL_law_X6_curve
set_option maxRecDepth 20000 in
theorem ggL_law_X7_curve : GoodIn wsL_law wsX7_curve := goodIn_r _ [489, 490, 263, 264, 265, 5, 266, 205, 206, 207, 208, 107, 110, 154, 155, 156, 491, 492, 493, 494, 114, 415, 116, 115, 416, 417, 418, 419, 271, 272, 273, 274, 267, 268, 269, 270, 420, 421, 422, 423, 327, 328, 329, 330, 109, 111, 302, 303, 304, 305, 108, 424, 425, 426, 427, 358, 359, 360, 361, 644, 645, 646, 647, 648, 649, 650, 651, 652, 653, 654, 655, 656, 657] (by decide +kernel) (by decide +kernel)
set_option maxRecDepth 20000 in
theorem gL_law_X7_curve : GoodIn wsL_law (wsV RL 76 RX7 yX7_curve wsX7_curve) := goodIn_app (goodIn_of _ (by decide +kernel)) ggL_law_X7_curve
set_option maxRecDepth 20000 in
theorem ggL_law_X6_point : GoodIn wsL_law wsX6_point := goodIn_r _ [498, 15, 27, 335, 247, 248, 249, 14, 250, 55, 366, 367, 368, 26, 369, 83, 84, 80, 370, 198, 199, 200, 371, 372, 373, 374, 78, 79, 375, 376, 256, 257, 258, 45, 377, 252, 253, 254, 378, 379, 380, 381, 382, 383, 384, 385, 85, 386, 311, 312, 22, 313, 314, 315, 316, 317, 71, 318, 319, 320, 72, 321, 166, 167, 168, 42, 322, 287, 288, 289, 290, 224, 225, 18, 226, 66, 291, 292, 293, 294, 41, 387, 351, 352, 353, 388, 389, 390, 391, 337, 338, 339, 392, 393, 394, 395, 396, 397, 398, 399, 400, 401, 402, 81, 82, 403, 404, 405, 406, 445, 446, 447, 448, 407, 408, 409, 410, 638, 639, 640, 641, 642, 643, 658, 659, 660, 661, 662, 663, 667, 668, 669, 670, 671, 672, 673, 674, 665, 666, 664] (by decide +kernel) (by decide +kernel)
set_option maxRecDepth 20000 in
theorem gL_law_X6_point : GoodIn wsL_law (wsV RL 77 RX6 yX6_point wsX6_point) := goodIn_app (goodIn_of _ (by decide +kernel)) ggL_law_X6_point
set_option maxRecDepth 20000 in
theorem ggL_law_X7_point : GoodIn wsL_law wsX7_point := goodIn_r _ [502, 490, 344, 116, 115, 263, 264, 265, 5, 266, 205, 206, 207, 208, 107, 110, 154, 155, 156, 491, 492, 493, 494, 114, 415, 416, 417, 418, 419, 271, 272, 273, 274, 267, 268, 269, 270, 420, 421, 422, 423, 327, 328, 329, 330, 109, 111, 302, 303, 304, 305, 108, 424, 425, 426, 427, 358, 359, 360, 361, 644, 645, 646, 647, 648, 649, 650, 651, 652, 653, 654, 655, 656, 657] (by decide +kernel) (by decide +kernel)
set_option maxRecDepth 20000 in
theorem gL_law_X7_point : GoodIn wsL_law (wsV RL 81 RX7 yX7_point wsX7_point) := goodIn_app (goodIn_of _ (by decide +kernel)) ggL_law_X7_point
set_option maxRecDepth 20000 in
theorem ggL_law_X6_share : GoodIn wsL_law wsX6_share := goodIn_r _ [506, 27, 31, 335, 436, 437, 2, 438, 366, 367, 368, 26, 369, 83, 84, 80, 370, 198, 199, 14, 200, 55, 371, 372, 373, 374, 78, 79, 375, 376, 256, 257, 258, 45, 377, 252, 253, 254, 378, 379, 380, 381, 382, 383, 384, 385, 85, 386, 311, 312, 22, 313, 314, 315, 316, 317, 71, 318, 319, 320, 72, 321, 166, 167, 168, 42, 322, 287, 288, 289, 290, 224, 225, 18, 226, 66, 291, 292, 293, 294, 41, 387, 351, 352, 353, 388, 389, 390, 391, 337, 338, 339, 392, 393, 394, 395, 396, 397, 398, 399, 400, 401, 402, 81, 82, 507, 508, 509, 30, 510, 92, 90, 93, 91, 94, 511, 512, 513, 514, 515, 516, 517, 518, 519, 520, 404, 405, 406, 521, 408, 409, 410, 522, 446, 447, 448, 523, 524, 525, 526, 527, 528, 529, 530, 638, 639, 640, 641, 642, 643, 667, 668, 669, 670, 671, 672, 673, 674, 658, 659, 660, 661, 662, 663, 665, 666, 664, 675, 676, 677, 678, 679] (by decide +kernel) (by decide +kernel)
set_option maxRecDepth 20000 in
theorem gL_law_X6_share : GoodIn wsL_law (wsV RL 82 RX6 yX6_share wsX6_share) := goodIn_app (goodIn_of _ (by decide +kernel)) ggL_law_X6_share
set_option maxRecDepth 20000 in
theorem ggL_law_X7_share : GoodIn wsL_law wsX7_share := goodIn_r _ [534, 117, 415, 344, 154, 155, 5, 156, 535, 536, 537, 538, 124, 118, 490, 115, 116, 205, 206, 207, 208, 107, 110, 491, 492, 493, 494, 114, 416, 417, 418, 419, 271, 272, 273, 274, 267, 268, 269, 270, 420, 421, 422, 423, 327, 328, 329, 330, 109, 111, 302, 303, 304, 305, 108, 424, 425, 426, 427, 358, 359, 360, 361, 644, 645, 646, 647, 648, 649, 650, 651, 652, 653, 654, 655, 656, 657] (by decide +kernel) (by decide +kernel)
set_option maxRecDepth 20000 in
theorem gL_law_X7_share : GoodIn wsL_law (wsV RL 85 RX7 yX7_share wsX7_share) := goodIn_app (goodIn_of _ (by decide +kernel)) ggL_law_X7_share
set_option maxRecDepth 20000 in
theorem ggL_law_X6_shareTime : GoodIn wsL_law wsX6_shareTime := goodIn_r _ [542, 15, 27, 31, 335, 247, 248, 249, 14, 250, 55, 436, 437, 2, 438, 366, 367, 368, 26, 369, 83, 84, 80, 370, 198, 199, 200, 371, 372, 373, 374, 78, 79, 375, 376, 256, 257, 258, 45, 377, 252, 253, 254, 378, 379, 380, 381, 382, 383, 384, 385, 85, 386, 311, 312, 22, 313, 314, 315, 316, 317, 71, 318, 319, 320, 72, 321, 166, 167, 168, 42, 322, 287, 288, 289, 290, 224, 225, 18, 226, 66, 291, 292, 293, 294, 41, 387, 351, 352, 353, 388, 389, 390, 391, 337, 338, 339, 392, 393, 394, 395, 396, 397, 398, 399, 400, 401, 402, 81, 82, 507, 508, 509, 30, 510, 92, 90, 93, 91, 94, 511, 512, 513, 514, 515, 516, 517, 518, 519, 520, 404, 405, 406, 521, 408, 409, 410, 522, 446, 447, 448, 523, 524, 525, 526, 543, 544, 545, 546, 547, 548, 638, 639, 640, 641, 642, 643, 658, 659, 660, 661, 662, 663, 667, 668, 669, 670, 671, 672, 673, 674, 665, 666, 664, 675, 676, 677, 678, 679] (by decide +kernel) (by decide +kernel)
set_option maxRecDepth 20000 in
theorem gL_law_X6_shareTime : GoodIn wsL_law (wsV RL 86 RX6 yX6_shareTime wsX6_shareTime) := goodIn_app (goodIn_of _ (by decide +kernel)) ggL_law_X6_shareTime
set_option maxRecDepth 20000 in
theorem ggL_law_X7_shareTime : GoodIn wsL_law wsX7_shareTime := goodIn_r _ [552, 117, 415, 344, 118, 263, 264, 265, 5, 266, 205, 206, 207, 208, 107, 110, 154, 155, 156, 535, 536, 537, 538, 124, 490, 115, 116, 491, 492, 493, 494, 114, 416, 417, 418, 419, 271, 272, 273, 274, 267, 268, 269, 270, 420, 421, 422, 423, 327, 328, 329, 330, 109, 111, 302, 303, 304, 305, 108, 424, 425, 426, 427, 358, 359, 360, 361, 644, 645, 646, 647, 648, 649, 650, 651, 652, 653, 654, 655, 656, 657] (by decide +kernel) (by decide +kernel)
set_option maxRecDepth 20000 in
theorem gL_law_X7_shareTime : GoodIn wsL_law (wsV RL 89 RX7 yX7_shareTime wsX7_shareTime) := goodIn_app (goodIn_of _ (by decide +kernel)) ggL_law_X7_shareTime
set_option maxRecDepth 20000 in
theorem ggL_law_X6_needs : GoodIn wsL_law wsX6_needs := goodIn_r _ [556, 27, 31, 335, 366, 367, 368, 26, 369, 83, 84, 80, 370, 198, 199, 14, 200, 55, 371, 372, 373, 374, 78, 79, 375, 376, 256, 257, 258, 45, 377, 252, 253, 254, 378, 379, 380, 381, 382, 383, 384, 385, 85, 386, 311, 312, 22, 313, 314, 315, 316, 317, 71, 318, 319, 320, 72, 321, 166, 167, 168, 42, 322, 287, 288, 289, 290, 224, 225, 18, 226, 66, 291, 292, 293, 294, 41, 387, 351, 352, 353, 388, 389, 390, 391, 337, 338, 339, 392, 393, 394, 395, 396, 397, 398, 399, 400, 401, 402, 81, 82, 507, 508, 509, 30, 510, 92, 90, 93, 91, 94, 511, 512, 513, 514, 515, 516, 517, 518, 519, 520, 404, 405, 406, 521, 408, 409, 410, 522, 446, 447, 448, 523, 524, 525, 526, 527, 528, 529, 530, 638, 639, 640, 641, 642, 643, 667, 668, 669, 670, 671, 672, 673, 674, 658, 659, 660, 661, 662, 663, 665, 666, 664, 675, 676, 677, 678, 679] (by decide +kernel) (by decide +kernel)
set_option maxRecDepth 20000 in
theorem gL_law_X6_needs : GoodIn wsL_law (wsV RL 90 RX6 yX6_needs wsX6_needs) := goodIn_app (goodIn_of _ (by decide +kernel)) ggL_law_X6_needs
set_option maxRecDepth 20000 in
theorem ggL_law_X7_needs : GoodIn wsL_law wsX7_needs := goodIn_r _ [560, 117, 415, 344, 535, 536, 537, 5, 538, 124, 118, 490, 115, 116, 205, 206, 207, 208, 107, 110, 491, 492, 493, 494, 114, 416, 417, 418, 419, 271, 272, 273, 274, 267, 268, 269, 270, 420, 421, 422, 423, 327, 328, 329, 330, 109, 111, 302, 303, 304, 305, 108, 424, 425, 426, 427, 358, 359, 360, 361, 644, 645, 646, 647, 648, 649, 650, 651, 652, 653, 654, 655, 656, 657] (by decide +kernel) (by decide +kernel)
set_option maxRecDepth 20000 in
theorem gL_law_X7_needs : GoodIn wsL_law (wsV RL 93 RX7 yX7_needs wsX7_needs) := goodIn_app (goodIn_of _ (by decide +kernel)) ggL_law_X7_needs
set_option maxRecDepth 20000 in
theorem ggL_law_X6_log : GoodIn wsL_law wsX6_log := goodIn_r _ [564, 35, 283, 284, 2, 285, 565, 566, 567, 34, 568, 100, 101, 569, 130, 131, 14, 132, 50, 570, 571, 572, 573, 99, 574, 575, 576, 577, 638, 639, 640, 641, 642, 643, 680, 681, 682, 683, 658, 659, 660, 661, 662, 663] (by decide +kernel) (by decide +kernel)
set_option maxRecDepth 20000 in
theorem gL_law_X6_log : GoodIn wsL_law (wsV RL 94 RX6 yX6_log wsX6_log) := goodIn_app (goodIn_of _ (by decide +kernel)) ggL_law_X6_log
set_option maxRecDepth 20000 in
theorem ggL_law_X7_log : GoodIn wsL_law wsX7_log := goodIn_r _ [581, 123, 107, 112, 299, 300, 5, 301, 154, 155, 156, 644, 645, 646, 647, 648, 649, 650, 651, 652, 653, 654, 655, 656, 657] (by decide +kernel) (by decide +kernel)
set_option maxRecDepth 20000 in
theorem gL_law_X7_log : GoodIn wsL_law (wsV RL 97 RX7 yX7_log wsX7_log) := goodIn_app (goodIn_of _ (by decide +kernel)) ggL_law_X7_log
set_option maxRecDepth 20000 in
theorem ggL_law_X6_clear : GoodIn wsL_law wsX6_clear := goodIn_r _ [585, 35, 574, 575, 576, 34, 577, 100, 134, 135, 136, 137, 638, 639, 640, 641, 642, 643, 680, 681, 682, 683] (by decide +kernel) (by decide +kernel)
set_option maxRecDepth 20000 in
theorem gL_law_X6_clear : GoodIn wsL_law (wsV RL 98 RX6 yX6_clear wsX6_clear) := goodIn_app (goodIn_of _ (by decide +kernel)) ggL_law_X6_clear
set_option maxRecDepth 20000 in
theorem ggL_law_X7_clear : GoodIn wsL_law wsX7_clear := goodIn_r _ [589, 123, 644, 645, 646, 647, 648, 649, 650, 651, 652, 653, 654, 655, 656, 657] (by decide +kernel) (by decide +kernel)
set_option maxRecDepth 20000 in
theorem gL_law_X7_clear : GoodIn wsL_law (wsV RL 102 RX7 yX7_clear wsX7_clear) := goodIn_app (goodIn_of _ (by decide +kernel)) ggL_law_X7_clear
set_option maxRecDepth 20000 in
theorem ggL_law_X6_judged : GoodIn wsL_law wsX6_judged := goodIn_r _ [593, 35, 594, 595, 596, 34, 597, 100, 102, 99, 598, 599, 600, 601, 602, 311, 312, 22, 313, 314, 315, 316, 317, 71, 318, 319, 320, 72, 321, 166, 167, 14, 168, 42, 322, 287, 288, 289, 290, 224, 225, 18, 226, 66, 291, 292, 293, 294, 41, 603, 337, 338, 339, 604, 605, 606, 607, 608, 351, 352, 353, 609, 610, 611, 612, 613, 614, 615, 616, 617, 618, 619, 620, 621, 101, 622, 623, 624, 625, 44, 638, 639, 640, 641, 642, 643, 680, 681, 682, 683, 665, 666, 658, 659, 660, 661, 662, 663, 664] (by decide +kernel) (by decide +kernel)
set_option maxRecDepth 20000 in
theorem gL_law_X6_judged : GoodIn wsL_law (wsV RL 103 RX6 yX6_judged wsX6_judged) := goodIn_app (goodIn_of _ (by decide +kernel)) ggL_law_X6_judged
set_option maxRecDepth 20000 in
theorem ggL_law_X7_judged : GoodIn wsL_law wsX7_judged := goodIn_r _ [629, 344, 123, 112, 110, 327, 328, 329, 5, 330, 109, 111, 302, 303, 304, 305, 108, 358, 359, 360, 361, 644, 645, 646, 647, 648, 649, 650, 651, 652, 653, 654, 655, 656, 657] (by decide +kernel) (by decide +kernel)
set_option maxRecDepth 20000 in
theorem gL_law_X7_judged : GoodIn wsL_law (wsV RL 106 RX7 yX7_judged wsX7_judged) := goodIn_app (goodIn_of _ (by decide +kernel)) ggL_law_X7_judged
set_option maxRecDepth 20000 in
theorem ggL_law_X6_count : GoodIn wsL_law wsX6_count := goodIn_r _ [633, 15, 35, 129, 130, 131, 14, 132, 50, 197, 198, 199, 200, 55, 574, 575, 576, 34, 577, 100, 638, 639, 640, 641, 642, 643, 658, 659, 660, 661, 662, 663, 680, 681, 682, 683] (by decide +kernel) (by decide +kernel)
set_option maxRecDepth 20000 in
theorem gL_law_X6_count : GoodIn wsL_law (wsV RL 107 RX6 yX6_count wsX6_count) := goodIn_app (goodIn_of _ (by decide +kernel)) ggL_law_X6_count
set_option maxRecDepth 20000 in
theorem ggL_law_X7_count : GoodIn wsL_law wsX7_count := goodIn_r _ [637, 107, 123, 205, 206, 207, 5, 208, 110, 644, 645, 646, 647, 648, 649, 650, 651, 652, 653, 654, 655, 656, 657] (by decide +kernel) (by decide +kernel)
set_option maxRecDepth 20000 in
theorem gL_law_X7_count : GoodIn wsL_law (wsV RL 110 RX7 yX7_count wsX7_count) := goodIn_app (goodIn_of _ (by decide +kernel)) ggL_law_X7_count
