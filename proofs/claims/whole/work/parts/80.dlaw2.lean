set_option maxRecDepth 20000 in
theorem gL_law_X4_empty : GoodIn wsL_law (wsV RL 113 RX4 yX4_empty wsX4_empty) := goodIn_app (goodIn_of _ (by decide +kernel)) ggL_law_X4_empty
set_option maxRecDepth 20000 in
theorem ggL_law_X5_empty : GoodIn wsL_law wsX5_empty := goodIn_r _ [371, 335, 355, 288, 289, 290, 5, 291, 138, 649, 650, 651, 652, 653, 654, 655, 656, 657, 658, 659, 660, 661, 662, 663, 664, 665, 666, 667, 668, 669, 670, 671, 672] (by decide +kernel) (by decide +kernel)
set_option maxRecDepth 20000 in
theorem gL_law_X5_empty : GoodIn wsL_law (wsV RL 116 RX5 yX5_empty wsX5_empty) := goodIn_app (goodIn_of _ (by decide +kernel)) ggL_law_X5_empty
set_option maxRecDepth 20000 in
theorem ggL_law_L_fits : GoodIn wsL_law wsL_fits := goodIn_ca (goodIn_r _ [374, 100, 375, 376, 377, 2, 378, 20, 197, 198, 199, 200, 106, 107, 201, 202, 203, 19, 204, 46, 44, 379, 380, 381, 382, 42, 45, 39, 383, 384, 385, 386, 387, 388, 389, 390, 391, 392, 393, 38, 645, 646, 647, 648, 675, 676, 677, 678, 679, 680, 681, 682, 683, 684] (by decide +kernel) (by decide +kernel)) (goodIn_sub (fun _ h => List.mem_append_left _ (List.mem_append_left _ (List.mem_append_right _ h))) (by decide +kernel))
set_option maxRecDepth 20000 in
theorem gL_law_L_fits : GoodIn wsL_law (va_wsS RL 117 yL_fits wsL_fits) := goodIn_app (goodIn_of _ (by decide +kernel)) ggL_law_L_fits
set_option maxRecDepth 20000 in
theorem ggL_law_X5_fits : GoodIn wsL_law wsX5_fits := goodIn_r _ [397, 213, 214, 215, 5, 216, 182, 83, 131, 132, 133, 217, 218, 219, 220, 138, 398, 399, 400, 401, 81, 82, 335, 92, 649, 650, 651, 652, 653, 654, 655, 656, 657, 658, 659, 660, 661, 662, 663, 664, 665, 666, 667, 668, 669, 670, 671, 672] (by decide +kernel) (by decide +kernel)
set_option maxRecDepth 20000 in
theorem gL_law_X5_fits : GoodIn wsL_law (wsV RL 119 RX5 yX5_fits wsX5_fits) := goodIn_app (goodIn_of _ (by decide +kernel)) ggL_law_X5_fits
set_option maxRecDepth 20000 in
theorem ggL_law_L_fitsByTable : GoodIn wsL_law wsL_fitsByTable := goodIn_ca (goodIn_r _ [404, 100, 405, 406, 407, 2, 408, 20, 197, 198, 199, 200, 106, 107, 201, 202, 203, 19, 204, 46, 44, 409, 410, 411, 412, 42, 48, 45, 39, 413, 414, 415, 416, 390, 391, 392, 393, 38, 645, 646, 647, 648, 675, 676, 677, 678, 679, 680, 681, 682, 683, 684] (by decide +kernel) (by decide +kernel)) (goodIn_sub (fun _ h => List.mem_append_left _ (List.mem_append_left _ (List.mem_append_right _ h))) (by decide +kernel))
set_option maxRecDepth 20000 in
theorem gL_law_L_fitsByTable : GoodIn wsL_law (va_wsS RL 120 yL_fitsByTable wsL_fitsByTable) := goodIn_app (goodIn_of _ (by decide +kernel)) ggL_law_L_fitsByTable
set_option maxRecDepth 20000 in
theorem ggL_law_X5_fitsByTable : GoodIn wsL_law wsX5_fitsByTable := goodIn_r _ [420, 421, 395, 396, 5, 397, 213, 214, 215, 216, 182, 83, 131, 132, 133, 217, 218, 219, 220, 138, 398, 399, 400, 401, 81, 82, 335, 92, 649, 650, 651, 652, 653, 654, 655, 656, 657, 658, 659, 660, 661, 662, 663, 664, 665, 666, 667, 668, 669, 670, 671, 672] (by decide +kernel) (by decide +kernel)
set_option maxRecDepth 20000 in
theorem gL_law_X5_fitsByTable : GoodIn wsL_law (wsV RL 122 RX5 yX5_fitsByTable wsX5_fitsByTable) := goodIn_app (goodIn_of _ (by decide +kernel)) ggL_law_X5_fitsByTable
set_option maxRecDepth 20000 in
theorem ggL_law_L_proves : GoodIn wsL_law wsL_proves := goodIn_ca (goodIn_r _ [424, 100, 425, 426, 427, 2, 428, 24, 248, 249, 250, 251, 106, 107, 252, 253, 254, 23, 255, 57, 429, 430, 431, 432, 56, 63, 58, 433, 434, 435, 436, 59, 60, 53, 52, 62, 61, 437, 438, 439, 440, 645, 646, 647, 648, 685, 686, 687, 688, 689, 690, 691, 692, 693, 694, 695, 696] (by decide +kernel) (by decide +kernel)) (goodIn_sub (fun _ h => List.mem_append_left _ (List.mem_append_left _ (List.mem_append_right _ h))) (by decide +kernel))
set_option maxRecDepth 20000 in
theorem gL_law_L_proves : GoodIn wsL_law (va_wsS RL 123 yL_proves wsL_proves) := goodIn_app (goodIn_of _ (by decide +kernel)) ggL_law_L_proves
set_option maxRecDepth 20000 in
theorem ggL_law_X5_proves : GoodIn wsL_law wsX5_proves := goodIn_r _ [444, 272, 273, 274, 5, 275, 240, 131, 132, 133, 217, 218, 219, 220, 138, 445, 446, 447, 448, 86, 87, 449, 450, 451, 452, 88, 89, 355, 93, 91, 90, 649, 650, 651, 652, 653, 654, 655, 656, 657, 658, 659, 660, 661, 662, 663, 664, 665, 666, 667, 668, 669, 670, 671, 672] (by decide +kernel) (by decide +kernel)
set_option maxRecDepth 20000 in
theorem gL_law_X5_proves : GoodIn wsL_law (wsV RL 125 RX5 yX5_proves wsX5_proves) := goodIn_app (goodIn_of _ (by decide +kernel)) ggL_law_X5_proves
set_option maxRecDepth 20000 in
theorem ggL_law_X4_byName : GoodIn wsL_law wsX4_byName := goodIn_r _ [456, 20, 16, 457, 458, 459, 19, 460, 46, 44, 461, 462, 463, 464, 41, 42, 465, 466, 467, 468, 40, 469, 300, 301, 15, 302, 303, 304, 305, 306, 33, 307, 111, 112, 113, 34, 470, 380, 381, 382, 45, 39, 383, 384, 385, 386, 387, 388, 389, 390, 391, 392, 393, 38, 471, 472, 473, 474, 475, 202, 203, 204, 645, 646, 647, 648, 675, 676, 677, 678, 679, 680, 681, 682, 683, 684, 673, 674] (by decide +kernel) (by decide +kernel)
set_option maxRecDepth 20000 in
theorem gL_law_X4_byName : GoodIn wsL_law (wsV RL 126 RX4 yX4_byName wsX4_byName) := goodIn_app (goodIn_of _ (by decide +kernel)) ggL_law_X4_byName
set_option maxRecDepth 20000 in
theorem ggL_law_X5_byName : GoodIn wsL_law wsX5_byName := goodIn_r _ [479, 480, 481, 482, 5, 483, 79, 484, 485, 486, 487, 182, 83, 80, 81, 398, 399, 400, 401, 82, 335, 92, 312, 313, 314, 315, 78, 288, 289, 290, 291, 138, 649, 650, 651, 652, 653, 654, 655, 656, 657, 658, 659, 660, 661, 662, 663, 664, 665, 666, 667, 668, 669, 670, 671, 672] (by decide +kernel) (by decide +kernel)
set_option maxRecDepth 20000 in
theorem gL_law_X5_byName : GoodIn wsL_law (wsV RL 129 RX5 yX5_byName wsX5_byName) := goodIn_app (goodIn_of _ (by decide +kernel)) ggL_law_X5_byName
set_option maxRecDepth 20000 in
theorem ggL_law_X4_byBytes : GoodIn wsL_law wsX4_byBytes := goodIn_r _ [491, 24, 492, 493, 494, 23, 495, 57, 55, 496, 430, 431, 432, 56, 63, 58, 433, 434, 435, 436, 59, 60, 53, 52, 62, 61, 437, 438, 439, 440, 497, 498, 499, 500, 54, 501, 253, 254, 255, 645, 646, 647, 648, 685, 686, 687, 688, 689, 690, 691, 692, 693, 694, 695, 696] (by decide +kernel) (by decide +kernel)
set_option maxRecDepth 20000 in
theorem gL_law_X4_byBytes : GoodIn wsL_law (wsV RL 130 RX4 yX4_byBytes wsX4_byBytes) := goodIn_app (goodIn_of _ (by decide +kernel)) ggL_law_X4_byBytes
set_option maxRecDepth 20000 in
theorem ggL_law_X5_byBytes : GoodIn wsL_law wsX5_byBytes := goodIn_r _ [505, 84, 506, 507, 508, 5, 509, 240, 85, 445, 446, 447, 448, 86, 87, 449, 450, 451, 452, 88, 89, 355, 93, 91, 90, 288, 289, 290, 291, 138, 649, 650, 651, 652, 653, 654, 655, 656, 657, 658, 659, 660, 661, 662, 663, 664, 665, 666, 667, 668, 669, 670, 671, 672] (by decide +kernel) (by decide +kernel)
set_option maxRecDepth 20000 in
theorem gL_law_X5_byBytes : GoodIn wsL_law (wsV RL 133 RX5 yX5_byBytes wsX5_byBytes) := goodIn_app (goodIn_of _ (by decide +kernel)) ggL_law_X5_byBytes
set_option maxRecDepth 20000 in
theorem ggL_law_X4_guess : GoodIn wsL_law wsX4_guess := goodIn_r _ [513, 24, 20, 16, 492, 493, 494, 23, 495, 57, 55, 496, 430, 431, 432, 56, 63, 58, 433, 434, 435, 436, 59, 60, 53, 52, 62, 61, 437, 438, 439, 440, 457, 458, 459, 19, 460, 46, 44, 461, 462, 463, 464, 41, 42, 465, 466, 467, 468, 40, 469, 300, 301, 15, 302, 303, 304, 305, 306, 33, 307, 111, 112, 113, 34, 470, 380, 381, 382, 45, 39, 383, 384, 385, 386, 387, 388, 389, 390, 391, 392, 393, 38, 514, 515, 516, 2, 517, 497, 498, 499, 500, 54, 501, 253, 254, 255, 471, 472, 473, 474, 475, 202, 203, 204, 518, 519, 520, 521, 522, 523, 524, 525, 526, 527, 528, 645, 646, 647, 648, 685, 686, 687, 688, 689, 690, 691, 692, 693, 694, 695, 696, 675, 676, 677, 678, 679, 680, 681, 682, 683, 684, 673, 674] (by decide +kernel) (by decide +kernel)
set_option maxRecDepth 20000 in
theorem gL_law_X4_guess : GoodIn wsL_law (wsV RL 134 RX4 yX4_guess wsX4_guess) := goodIn_app (goodIn_of _ (by decide +kernel)) ggL_law_X4_guess
set_option maxRecDepth 20000 in
theorem ggL_law_X5_guess : GoodIn wsL_law wsX5_guess := goodIn_r _ [532, 138, 84, 79, 85, 355, 93, 506, 507, 508, 5, 509, 240, 445, 446, 447, 448, 86, 87, 449, 450, 451, 452, 88, 89, 91, 90, 480, 481, 482, 483, 484, 485, 486, 487, 182, 83, 80, 81, 398, 399, 400, 401, 82, 335, 92, 312, 313, 314, 315, 78, 131, 132, 133, 649, 650, 651, 652, 653, 654, 655, 656, 657, 658, 659, 660, 661, 662, 663, 664, 665, 666, 667, 668, 669, 670, 671, 672] (by decide +kernel) (by decide +kernel)
set_option maxRecDepth 20000 in
theorem gL_law_X5_guess : GoodIn wsL_law (wsV RL 137 RX5 yX5_guess wsX5_guess) := goodIn_app (goodIn_of _ (by decide +kernel)) ggL_law_X5_guess
set_option maxRecDepth 20000 in
theorem ggL_law_L_program : GoodIn wsL_law wsL_program := goodIn_ca (goodIn_ca (goodIn_r _ [535, 100, 146, 536, 537, 538, 2, 539, 28, 151, 152, 153, 154, 106, 107, 16, 110, 111, 112, 15, 113, 34, 155, 156, 157, 158, 159, 160, 161, 162, 540, 541, 542, 27, 543, 68, 544, 545, 546, 645, 646, 647, 648, 673, 674, 697, 698] (by decide +kernel) (by decide +kernel)) (goodIn_sub (fun _ h => List.mem_append_left _ (List.mem_append_left _ (List.mem_append_right _ h))) (by decide +kernel))) (goodIn_sub (fun _ h => List.mem_append_right _ h) (by decide +kernel))
set_option maxRecDepth 20000 in
theorem gL_law_L_program : GoodIn wsL_law (va_wsS RL 138 yL_program wsL_program) := goodIn_app (goodIn_of _ (by decide +kernel)) ggL_law_L_program
set_option maxRecDepth 20000 in
theorem ggL_law_X5_program : GoodIn wsL_law wsX5_program := goodIn_r _ [550, 94, 127, 128, 129, 5, 130, 126, 131, 132, 133, 551, 552, 553, 134, 135, 136, 137, 138, 649, 650, 651, 652, 653, 654, 655, 656, 657, 658, 659, 660, 661, 662, 663, 664, 665, 666, 667, 668, 669, 670, 671, 672] (by decide +kernel) (by decide +kernel)
set_option maxRecDepth 20000 in
theorem gL_law_X5_program : GoodIn wsL_law (wsV RL 141 RX5 yX5_program wsX5_program) := goodIn_app (goodIn_of _ (by decide +kernel)) ggL_law_X5_program
set_option maxRecDepth 20000 in
theorem ggL_law_L_setDefault : GoodIn wsL_law wsL_setDefault := goodIn_ca (goodIn_ca (goodIn_r _ [556, 100, 146, 557, 558, 559, 2, 560, 28, 151, 152, 153, 154, 106, 107, 16, 110, 111, 112, 15, 113, 34, 155, 156, 157, 158, 159, 160, 161, 162, 561, 562, 563, 27, 564, 69, 544, 545, 546, 645, 646, 647, 648, 673, 674, 697, 698] (by decide +kernel) (by decide +kernel)) (goodIn_sub (fun _ h => List.mem_append_left _ (List.mem_append_left _ (List.mem_append_right _ h))) (by decide +kernel))) (goodIn_sub (fun _ h => List.mem_append_right _ h) (by decide +kernel))
set_option maxRecDepth 20000 in
theorem gL_law_L_setDefault : GoodIn wsL_law (va_wsS RL 142 yL_setDefault wsL_setDefault) := goodIn_app (goodIn_of _ (by decide +kernel)) ggL_law_L_setDefault
set_option maxRecDepth 20000 in
theorem ggL_law_X5_setDefault : GoodIn wsL_law wsX5_setDefault := goodIn_r _ [568, 95, 127, 128, 129, 5, 130, 126, 131, 132, 133, 551, 552, 553, 134, 135, 136, 137, 138, 649, 650, 651, 652, 653, 654, 655, 656, 657, 658, 659, 660, 661, 662, 663, 664, 665, 666, 667, 668, 669, 670, 671, 672] (by decide +kernel) (by decide +kernel)
set_option maxRecDepth 20000 in
theorem gL_law_X5_setDefault : GoodIn wsL_law (wsV RL 145 RX5 yX5_setDefault wsX5_setDefault) := goodIn_app (goodIn_of _ (by decide +kernel)) ggL_law_X5_setDefault
set_option maxRecDepth 20000 in
theorem ggL_law_L_programs : GoodIn wsL_law wsL_programs := goodIn_ca (goodIn_r _ [571, 100, 572, 573, 574, 2, 575, 28, 16, 151, 152, 153, 154, 106, 107, 110, 111, 112, 15, 113, 34, 576, 577, 578, 27, 579, 580, 581, 582, 583, 584, 585, 586, 587, 68, 544, 545, 546, 588, 304, 305, 306, 33, 307, 589, 590, 591, 592, 593, 594, 595, 645, 646, 647, 648, 673, 674, 697, 698] (by decide +kernel) (by decide +kernel)) (goodIn_sub (fun _ h => List.mem_append_left _ (List.mem_append_left _ (List.mem_append_right _ h))) (by decide +kernel))
set_option maxRecDepth 20000 in
theorem gL_law_L_programs : GoodIn wsL_law (va_wsS RL 146 yL_programs wsL_programs) := goodIn_app (goodIn_of _ (by decide +kernel)) ggL_law_L_programs
set_option maxRecDepth 20000 in
theorem ggL_law_X5_programs : GoodIn wsL_law wsX5_programs := goodIn_r _ [599, 127, 128, 129, 5, 130, 126, 131, 132, 133, 217, 218, 219, 220, 138, 600, 601, 602, 603, 78, 604, 605, 606, 607, 94, 649, 650, 651, 652, 653, 654, 655, 656, 657, 658, 659, 660, 661, 662, 663, 664, 665, 666, 667, 668, 669, 670, 671, 672] (by decide +kernel) (by decide +kernel)
set_option maxRecDepth 20000 in
theorem gL_law_X5_programs : GoodIn wsL_law (wsV RL 148 RX5 yX5_programs wsX5_programs) := goodIn_app (goodIn_of _ (by decide +kernel)) ggL_law_X5_programs
set_option maxRecDepth 20000 in
theorem ggL_law_L_programAt : GoodIn wsL_law wsL_programAt := goodIn_ca (goodIn_r _ [610, 100, 611, 612, 613, 2, 614, 106, 107, 28, 16, 151, 152, 153, 154, 110, 111, 112, 15, 113, 34, 615, 616, 617, 27, 618, 580, 581, 582, 583, 584, 585, 586, 587, 68, 544, 545, 546, 589, 590, 591, 592, 593, 594, 595, 619, 620, 621, 588, 304, 305, 306, 33, 307, 645, 646, 647, 648, 673, 674, 697, 698] (by decide +kernel) (by decide +kernel)) (goodIn_sub (fun _ h => List.mem_append_left _ (List.mem_append_left _ (List.mem_append_right _ h))) (by decide +kernel))
set_option maxRecDepth 20000 in
theorem gL_law_L_programAt : GoodIn wsL_law (va_wsS RL 149 yL_programAt wsL_programAt) := goodIn_app (goodIn_of _ (by decide +kernel)) ggL_law_L_programAt
set_option maxRecDepth 20000 in
theorem ggL_law_X5_programAt : GoodIn wsL_law wsX5_programAt := goodIn_r _ [625, 127, 128, 129, 5, 130, 126, 131, 132, 133, 600, 601, 602, 603, 78, 604, 605, 606, 607, 94, 217, 218, 219, 220, 138, 649, 650, 651, 652, 653, 654, 655, 656, 657, 658, 659, 660, 661, 662, 663, 664, 665, 666, 667, 668, 669, 670, 671, 672] (by decide +kernel) (by decide +kernel)
set_option maxRecDepth 20000 in
theorem gL_law_X5_programAt : GoodIn wsL_law (wsV RL 151 RX5 yX5_programAt wsX5_programAt) := goodIn_app (goodIn_of _ (by decide +kernel)) ggL_law_X5_programAt
