set_option maxRecDepth 20000 in
theorem ggL_law_X2_init : GoodIn wsL_law wsX2_init := goodIn_r _ [9, 10, 11, 12, 13, 14, 15, 16, 17, 18, 19, 20, 21, 22, 23, 24, 25, 26, 27, 28, 29, 30, 31, 32, 33, 34, 35, 36, 37, 38, 39, 40, 41, 42, 699, 700, 701, 702, 703, 704, 705, 706, 707, 708, 680, 681, 682, 709, 710, 711, 712, 713] (by decide +kernel) (by decide +kernel)
set_option maxRecDepth 20000 in
theorem gL_law_X2_init : GoodIn wsL_law (wsX2_init) := ggL_law_X2_init
set_option maxRecDepth 20000 in
theorem ggL_law_X3_init : GoodIn wsL_law wsX3_init := goodIn_r _ [45, 46, 11, 12, 25, 47, 48, 49, 50, 51, 52, 53, 54, 55, 56, 57, 58, 683, 684, 685, 686, 687, 688, 689, 690, 691, 692, 693, 694, 695, 696, 697, 698] (by decide +kernel) (by decide +kernel)
set_option maxRecDepth 20000 in
theorem gL_law_X3_init : GoodIn wsL_law (wsX3_init) := ggL_law_X3_init
set_option maxRecDepth 20000 in
theorem ggL_law_L_setUnits : GoodIn wsL_law wsL_setUnits := goodIn_ca (goodIn_ca (goodIn_r _ [62, 63, 64, 65, 66, 67, 2, 68, 69, 70, 16, 71, 20, 72, 73, 74, 75, 76, 77, 78, 79, 80, 81, 82, 19, 83, 84, 680, 681, 682, 699, 700, 701, 702, 703, 704, 705, 706, 707, 708, 709, 710, 711, 712, 713] (by decide +kernel) (by decide +kernel)) (goodIn_sub (fun _ h => List.mem_append_left _ (List.mem_append_left _ (List.mem_append_right _ h))) (by decide +kernel))) (goodIn_sub (fun _ h => List.mem_append_left _ (List.mem_append_right _ h)) (by decide +kernel))
set_option maxRecDepth 20000 in
theorem gL_law_L_setUnits : GoodIn wsL_law (va_wsS RL 91 yL_setUnits wsL_setUnits) := goodIn_app (goodIn_of _ (by decide +kernel)) ggL_law_L_setUnits
set_option maxRecDepth 20000 in
theorem ggL_law_X3_setUnits : GoodIn wsL_law wsX3_setUnits := goodIn_r _ [88, 89, 47, 90, 91, 92, 5, 93, 94, 95, 96, 97, 683, 684, 685, 686, 687, 688, 689, 690, 691, 692, 693, 694, 695, 696, 697, 698] (by decide +kernel) (by decide +kernel)
set_option maxRecDepth 20000 in
theorem gL_law_X3_setUnits : GoodIn wsL_law (wsV RL 96 RX3 yX3_setUnits wsX3_setUnits) := goodIn_app (goodIn_of _ (by decide +kernel)) ggL_law_X3_setUnits
set_option maxRecDepth 20000 in
theorem ggL_law_X3_thrown : GoodIn wsL_law wsX3_thrown := goodIn_r _ [101, 89, 683, 684, 685, 686, 687, 688, 689, 690, 691, 692, 693, 694, 695, 696, 697, 698] (by decide +kernel) (by decide +kernel)
set_option maxRecDepth 20000 in
theorem gL_law_X3_thrown : GoodIn wsL_law (wsV RL 97 RX3 yX3_thrown wsX3_thrown) := goodIn_app (goodIn_of _ (by decide +kernel)) ggL_law_X3_thrown
set_option maxRecDepth 20000 in
theorem ggL_law_L_addOperation : GoodIn wsL_law wsL_addOperation := goodIn_ca (goodIn_ca (goodIn_r _ [104, 64, 105, 106, 107, 108, 2, 109, 69, 70, 110, 111, 16, 112, 20, 77, 78, 79, 80, 81, 82, 19, 83, 84, 113, 114, 115, 15, 116, 27, 117, 28, 680, 681, 682, 699, 700, 701, 702, 703, 704, 705, 706, 707, 708, 709, 710, 711, 712, 713] (by decide +kernel) (by decide +kernel)) (goodIn_sub (fun _ h => List.mem_append_left _ (List.mem_append_left _ (List.mem_append_right _ h))) (by decide +kernel))) (goodIn_sub (fun _ h => List.mem_append_right _ h) (by decide +kernel))
set_option maxRecDepth 20000 in
theorem gL_law_L_addOperation : GoodIn wsL_law (va_wsS RL 100 yL_addOperation wsL_addOperation) := goodIn_app (goodIn_of _ (by decide +kernel)) ggL_law_L_addOperation
set_option maxRecDepth 20000 in
theorem ggL_law_X3_addOperation : GoodIn wsL_law wsX3_addOperation := goodIn_r _ [121, 89, 122, 48, 49, 90, 91, 92, 5, 93, 94, 95, 96, 97, 683, 684, 685, 686, 687, 688, 689, 690, 691, 692, 693, 694, 695, 696, 697, 698] (by decide +kernel) (by decide +kernel)
set_option maxRecDepth 20000 in
theorem gL_law_X3_addOperation : GoodIn wsL_law (wsV RL 102 RX3 yX3_addOperation wsX3_addOperation) := goodIn_app (goodIn_of _ (by decide +kernel)) ggL_law_X3_addOperation
set_option maxRecDepth 20000 in
theorem ggL_law_L_addDependence : GoodIn wsL_law wsL_addDependence := goodIn_ca (goodIn_ca (goodIn_ca (goodIn_r _ [125, 63, 64, 105, 126, 127, 128, 2, 129, 69, 70, 110, 111, 16, 130, 20, 131, 132, 133, 134, 75, 76, 112, 135, 136, 137, 80, 81, 82, 19, 83, 84, 138, 139, 140, 15, 141, 29, 142, 30, 31, 32, 680, 681, 682, 699, 700, 701, 702, 703, 704, 705, 706, 707, 708, 709, 710, 711, 712, 713] (by decide +kernel) (by decide +kernel)) (goodIn_sub (fun _ h => List.mem_append_left _ (List.mem_append_left _ (List.mem_append_right _ h))) (by decide +kernel))) (goodIn_sub (fun _ h => List.mem_append_right _ h) (by decide +kernel))) (goodIn_sub (fun _ h => List.mem_append_left _ (List.mem_append_right _ h)) (by decide +kernel))
set_option maxRecDepth 20000 in
theorem gL_law_L_addDependence : GoodIn wsL_law (va_wsS RL 103 yL_addDependence wsL_addDependence) := goodIn_app (goodIn_of _ (by decide +kernel)) ggL_law_L_addDependence
set_option maxRecDepth 20000 in
theorem ggL_law_X3_addDependence : GoodIn wsL_law wsX3_addDependence := goodIn_r _ [146, 89, 147, 50, 51, 52, 53, 90, 148, 149, 150, 5, 151, 122, 91, 92, 93, 94, 95, 96, 97, 683, 684, 685, 686, 687, 688, 689, 690, 691, 692, 693, 694, 695, 696, 697, 698] (by decide +kernel) (by decide +kernel)
set_option maxRecDepth 20000 in
theorem gL_law_X3_addDependence : GoodIn wsL_law (wsV RL 106 RX3 yX3_addDependence wsX3_addDependence) := goodIn_app (goodIn_of _ (by decide +kernel)) ggL_law_X3_addDependence
set_option maxRecDepth 20000 in
theorem ggL_law_L_setDelay : GoodIn wsL_law wsL_setDelay := goodIn_ca (goodIn_ca (goodIn_r _ [154, 63, 64, 155, 156, 157, 2, 158, 75, 76, 16, 130, 159, 20, 135, 136, 137, 69, 70, 80, 81, 82, 19, 83, 84, 680, 681, 682, 699, 700, 701, 702, 703, 704, 705, 706, 707, 708, 709, 710, 711, 712, 713] (by decide +kernel) (by decide +kernel)) (goodIn_sub (fun _ h => List.mem_append_left _ (List.mem_append_right _ h)) (by decide +kernel))) (goodIn_sub (fun _ h => List.mem_append_left _ (List.mem_append_left _ (List.mem_append_right _ h))) (by decide +kernel))
set_option maxRecDepth 20000 in
theorem gL_law_L_setDelay : GoodIn wsL_law (va_wsS RL 107 yL_setDelay wsL_setDelay) := goodIn_app (goodIn_of _ (by decide +kernel)) ggL_law_L_setDelay
set_option maxRecDepth 20000 in
theorem ggL_law_X3_setDelay : GoodIn wsL_law wsX3_setDelay := goodIn_r _ [163, 89, 147, 52, 90, 91, 92, 5, 93, 94, 95, 96, 97, 683, 684, 685, 686, 687, 688, 689, 690, 691, 692, 693, 694, 695, 696, 697, 698] (by decide +kernel) (by decide +kernel)
set_option maxRecDepth 20000 in
theorem gL_law_X3_setDelay : GoodIn wsL_law (wsV RL 109 RX3 yX3_setDelay wsX3_setDelay) := goodIn_app (goodIn_of _ (by decide +kernel)) ggL_law_X3_setDelay
set_option maxRecDepth 20000 in
theorem ggL_law_X2_operationCount : GoodIn wsL_law wsX2_operationCount := goodIn_r _ [167, 16, 112, 680, 681, 682, 699, 700, 701, 702, 703, 704, 705, 706, 707, 708] (by decide +kernel) (by decide +kernel)
set_option maxRecDepth 20000 in
theorem gL_law_X2_operationCount : GoodIn wsL_law (wsV RL 110 RX2 yX2_operationCount wsX2_operationCount) := goodIn_app (goodIn_of _ (by decide +kernel)) ggL_law_X2_operationCount
set_option maxRecDepth 20000 in
theorem ggL_law_X3_operationCount : GoodIn wsL_law wsX3_operationCount := goodIn_r _ [171, 89, 122, 683, 684, 685, 686, 687, 688, 689, 690, 691, 692, 693, 694, 695, 696, 697, 698] (by decide +kernel) (by decide +kernel)
set_option maxRecDepth 20000 in
theorem gL_law_X3_operationCount : GoodIn wsL_law (wsV RL 113 RX3 yX3_operationCount wsX3_operationCount) := goodIn_app (goodIn_of _ (by decide +kernel)) ggL_law_X3_operationCount
set_option maxRecDepth 20000 in
theorem ggL_law_X2_dependenceCount : GoodIn wsL_law wsX2_dependenceCount := goodIn_r _ [175, 16, 130, 680, 681, 682, 699, 700, 701, 702, 703, 704, 705, 706, 707, 708] (by decide +kernel) (by decide +kernel)
set_option maxRecDepth 20000 in
theorem gL_law_X2_dependenceCount : GoodIn wsL_law (wsV RL 114 RX2 yX2_dependenceCount wsX2_dependenceCount) := goodIn_app (goodIn_of _ (by decide +kernel)) ggL_law_X2_dependenceCount
set_option maxRecDepth 20000 in
theorem ggL_law_X3_dependenceCount : GoodIn wsL_law wsX3_dependenceCount := goodIn_r _ [179, 89, 147, 683, 684, 685, 686, 687, 688, 689, 690, 691, 692, 693, 694, 695, 696, 697, 698] (by decide +kernel) (by decide +kernel)
set_option maxRecDepth 20000 in
theorem gL_law_X3_dependenceCount : GoodIn wsL_law (wsV RL 117 RX3 yX3_dependenceCount wsX3_dependenceCount) := goodIn_app (goodIn_of _ (by decide +kernel)) ggL_law_X3_dependenceCount
set_option maxRecDepth 20000 in
theorem ggL_law_X2_resourceBound : GoodIn wsL_law wsX2_resourceBound := goodIn_r _ [183, 16, 184, 185, 186, 15, 187, 26, 188, 189, 190, 191, 192, 193, 194, 195, 117, 27, 28, 680, 681, 682, 699, 700, 701, 702, 703, 704, 705, 706, 707, 708] (by decide +kernel) (by decide +kernel)
set_option maxRecDepth 20000 in
theorem gL_law_X2_resourceBound : GoodIn wsL_law (wsV RL 118 RX2 yX2_resourceBound wsX2_resourceBound) := goodIn_app (goodIn_of _ (by decide +kernel)) ggL_law_X2_resourceBound
set_option maxRecDepth 20000 in
theorem ggL_law_X3_resourceBound : GoodIn wsL_law wsX3_resourceBound := goodIn_r _ [199, 89, 200, 201, 202, 5, 203, 122, 48, 49, 47, 683, 684, 685, 686, 687, 688, 689, 690, 691, 692, 693, 694, 695, 696, 697, 698] (by decide +kernel) (by decide +kernel)
set_option maxRecDepth 20000 in
theorem gL_law_X3_resourceBound : GoodIn wsL_law (wsV RL 121 RX3 yX3_resourceBound wsX3_resourceBound) := goodIn_app (goodIn_of _ (by decide +kernel)) ggL_law_X3_resourceBound
set_option maxRecDepth 20000 in
theorem ggL_law_X2_recurrenceBound : GoodIn wsL_law wsX2_recurrenceBound := goodIn_r _ [207, 16, 208, 209, 210, 15, 211, 212, 213, 214, 215, 33, 117, 216, 217, 218, 219, 220, 221, 222, 223, 142, 30, 31, 32, 29, 680, 681, 682, 699, 700, 701, 702, 703, 704, 705, 706, 707, 708] (by decide +kernel) (by decide +kernel)
set_option maxRecDepth 20000 in
theorem gL_law_X2_recurrenceBound : GoodIn wsL_law (wsV RL 122 RX2 yX2_recurrenceBound wsX2_recurrenceBound) := goodIn_app (goodIn_of _ (by decide +kernel)) ggL_law_X2_recurrenceBound
set_option maxRecDepth 20000 in
theorem ggL_law_X3_recurrenceBound : GoodIn wsL_law wsX3_recurrenceBound := goodIn_r _ [227, 89, 228, 229, 230, 5, 231, 232, 233, 234, 235, 122, 55, 236, 237, 238, 239, 147, 51, 50, 240, 241, 242, 243, 52, 53, 683, 684, 685, 686, 687, 688, 689, 690, 691, 692, 693, 694, 695, 696, 697, 698] (by decide +kernel) (by decide +kernel)
set_option maxRecDepth 20000 in
theorem gL_law_X3_recurrenceBound : GoodIn wsL_law (wsV RL 125 RX3 yX3_recurrenceBound wsX3_recurrenceBound) := goodIn_app (goodIn_of _ (by decide +kernel)) ggL_law_X3_recurrenceBound
set_option maxRecDepth 20000 in
theorem ggL_law_L_height : GoodIn wsL_law wsL_height := goodIn_ca (goodIn_ca (goodIn_r _ [246, 63, 64, 247, 248, 249, 2, 250, 69, 70, 16, 251, 131, 132, 133, 134, 75, 76, 112, 208, 209, 210, 15, 211, 212, 213, 214, 215, 33, 117, 216, 217, 218, 219, 220, 221, 222, 223, 142, 30, 31, 32, 29, 252, 680, 681, 682, 699, 700, 701, 702, 703, 704, 705, 706, 707, 708] (by decide +kernel) (by decide +kernel)) (goodIn_sub (fun _ h => List.mem_append_left _ (List.mem_append_left _ (List.mem_append_right _ h))) (by decide +kernel))) (goodIn_sub (fun _ h => List.mem_append_left _ (List.mem_append_right _ h)) (by decide +kernel))
set_option maxRecDepth 20000 in
theorem gL_law_L_height : GoodIn wsL_law (va_wsS RL 126 yL_height wsL_height) := goodIn_app (goodIn_of _ (by decide +kernel)) ggL_law_L_height
set_option maxRecDepth 20000 in
theorem ggL_law_X3_height : GoodIn wsL_law wsX3_height := goodIn_r _ [256, 89, 55, 148, 149, 150, 5, 151, 122, 91, 92, 93, 94, 95, 96, 97, 228, 229, 230, 231, 232, 233, 234, 235, 236, 237, 238, 239, 147, 51, 50, 240, 241, 242, 243, 52, 53, 683, 684, 685, 686, 687, 688, 689, 690, 691, 692, 693, 694, 695, 696, 697, 698] (by decide +kernel) (by decide +kernel)
set_option maxRecDepth 20000 in
theorem gL_law_X3_height : GoodIn wsL_law (wsV RL 128 RX3 yX3_height wsX3_height) := goodIn_app (goodIn_of _ (by decide +kernel)) ggL_law_X3_height
set_option maxRecDepth 20000 in
theorem ggL_law_L_schedule : GoodIn wsL_law wsL_schedule := goodIn_ca (goodIn_r _ [259, 64, 260, 261, 262, 2, 263, 69, 70, 20, 264, 16, 265, 189, 190, 191, 80, 81, 82, 19, 83, 84, 208, 209, 210, 15, 211, 212, 213, 214, 215, 33, 117, 216, 217, 218, 219, 220, 221, 222, 223, 142, 30, 31, 32, 29, 184, 185, 186, 187, 26, 188, 192, 193, 194, 195, 27, 28, 266, 267, 268, 269, 42, 38, 40, 270, 271, 272, 273, 274, 275, 276, 277, 278, 279, 280, 281, 282, 283, 284, 285, 286, 287, 288, 289, 290, 291, 292, 293, 294, 295, 296, 297, 298, 299, 300, 301, 302, 303, 304, 305, 306, 307, 308, 309, 310, 311, 312, 313, 314, 680, 681, 682, 709, 710, 711, 712, 713, 699, 700, 701, 702, 703, 704, 705, 706, 707, 708] (by decide +kernel) (by decide +kernel)) (goodIn_sub (fun _ h => List.mem_append_left _ (List.mem_append_left _ (List.mem_append_right _ h))) (by decide +kernel))
set_option maxRecDepth 20000 in
theorem gL_law_L_schedule : GoodIn wsL_law (va_wsS RL 129 yL_schedule wsL_schedule) := goodIn_app (goodIn_of _ (by decide +kernel)) ggL_law_L_schedule
set_option maxRecDepth 20000 in
theorem ggL_law_X3_schedule : GoodIn wsL_law wsX3_schedule := goodIn_r _ [318, 89, 319, 90, 320, 189, 190, 191, 91, 92, 5, 93, 94, 95, 96, 97, 228, 229, 230, 231, 232, 233, 234, 235, 122, 55, 236, 237, 238, 239, 147, 51, 50, 240, 241, 242, 243, 52, 53, 200, 201, 202, 203, 48, 49, 47, 321, 322, 323, 324, 57, 325, 326, 327, 328, 329, 330, 331, 332, 333, 54, 334, 297, 298, 335, 336, 337, 338, 339, 340, 341, 342, 58, 683, 684, 685, 686, 687, 688, 689, 690, 691, 692, 693, 694, 695, 696, 697, 698] (by decide +kernel) (by decide +kernel)
set_option maxRecDepth 20000 in
theorem gL_law_X3_schedule : GoodIn wsL_law (wsV RL 132 RX3 yX3_schedule wsX3_schedule) := goodIn_app (goodIn_of _ (by decide +kernel)) ggL_law_X3_schedule
set_option maxRecDepth 20000 in
theorem ggL_law_X2_attempts : GoodIn wsL_law wsX2_attempts := goodIn_r _ [346, 264, 680, 681, 682] (by decide +kernel) (by decide +kernel)
set_option maxRecDepth 20000 in
theorem gL_law_X2_attempts : GoodIn wsL_law (wsV RL 133 RX2 yX2_attempts wsX2_attempts) := goodIn_app (goodIn_of _ (by decide +kernel)) ggL_law_X2_attempts
set_option maxRecDepth 20000 in
theorem ggL_law_X3_attempts : GoodIn wsL_law wsX3_attempts := goodIn_r _ [350, 89, 319, 683, 684, 685, 686, 687, 688, 689, 690, 691, 692, 693, 694, 695, 696, 697, 698] (by decide +kernel) (by decide +kernel)
set_option maxRecDepth 20000 in
theorem gL_law_X3_attempts : GoodIn wsL_law (wsV RL 136 RX3 yX3_attempts wsX3_attempts) := goodIn_app (goodIn_of _ (by decide +kernel)) ggL_law_X3_attempts
set_option maxRecDepth 20000 in
theorem ggL_law_X2_hasSchedule : GoodIn wsL_law wsX2_hasSchedule := goodIn_r _ [354, 20, 355, 680, 681, 682, 709, 710, 711, 712, 713] (by decide +kernel) (by decide +kernel)
set_option maxRecDepth 20000 in
theorem gL_law_X2_hasSchedule : GoodIn wsL_law (wsV RL 137 RX2 yX2_hasSchedule wsX2_hasSchedule) := goodIn_app (goodIn_of _ (by decide +kernel)) ggL_law_X2_hasSchedule
set_option maxRecDepth 20000 in
theorem ggL_law_X3_hasSchedule : GoodIn wsL_law wsX3_hasSchedule := goodIn_r _ [359, 89, 90, 683, 684, 685, 686, 687, 688, 689, 690, 691, 692, 693, 694, 695, 696, 697, 698] (by decide +kernel) (by decide +kernel)
set_option maxRecDepth 20000 in
theorem gL_law_X3_hasSchedule : GoodIn wsL_law (wsV RL 141 RX3 yX3_hasSchedule wsX3_hasSchedule) := goodIn_app (goodIn_of _ (by decide +kernel)) ggL_law_X3_hasSchedule
set_option maxRecDepth 20000 in
theorem ggL_law_L_interval : GoodIn wsL_law wsL_interval := goodIn_ca (goodIn_r _ [362, 105, 363, 364, 365, 2, 366, 20, 355, 367, 368, 369, 370, 110, 111, 680, 681, 682, 709, 710, 711, 712, 713] (by decide +kernel) (by decide +kernel)) (goodIn_sub (fun _ h => List.mem_append_right _ h) (by decide +kernel))
set_option maxRecDepth 20000 in
theorem gL_law_L_interval : GoodIn wsL_law (va_wsS RL 142 yL_interval wsL_interval) := goodIn_app (goodIn_of _ (by decide +kernel)) ggL_law_L_interval
set_option maxRecDepth 20000 in
theorem ggL_law_X3_interval : GoodIn wsL_law wsX3_interval := goodIn_r _ [374, 90, 375, 376, 377, 5, 378, 89, 683, 684, 685, 686, 687, 688, 689, 690, 691, 692, 693, 694, 695, 696, 697, 698] (by decide +kernel) (by decide +kernel)
set_option maxRecDepth 20000 in
theorem gL_law_X3_interval : GoodIn wsL_law (wsV RL 145 RX3 yX3_interval wsX3_interval) := goodIn_app (goodIn_of _ (by decide +kernel)) ggL_law_X3_interval
set_option maxRecDepth 20000 in
theorem ggL_law_L_time : GoodIn wsL_law wsL_time := goodIn_ca (goodIn_ca (goodIn_r _ [381, 63, 105, 382, 383, 384, 2, 385, 20, 386, 131, 132, 133, 134, 75, 76, 16, 112, 367, 368, 369, 370, 110, 111, 355, 680, 681, 682, 709, 710, 711, 712, 713, 699, 700, 701, 702, 703, 704, 705, 706, 707, 708] (by decide +kernel) (by decide +kernel)) (goodIn_sub (fun _ h => List.mem_append_left _ (List.mem_append_right _ h)) (by decide +kernel))) (goodIn_sub (fun _ h => List.mem_append_right _ h) (by decide +kernel))
set_option maxRecDepth 20000 in
theorem gL_law_L_time : GoodIn wsL_law (va_wsS RL 146 yL_time wsL_time) := goodIn_app (goodIn_of _ (by decide +kernel)) ggL_law_L_time
set_option maxRecDepth 20000 in
theorem ggL_law_X3_time : GoodIn wsL_law wsX3_time := goodIn_r _ [390, 54, 391, 392, 393, 5, 394, 90, 89, 148, 149, 150, 151, 122, 91, 92, 93, 683, 684, 685, 686, 687, 688, 689, 690, 691, 692, 693, 694, 695, 696, 697, 698] (by decide +kernel) (by decide +kernel)
set_option maxRecDepth 20000 in
theorem gL_law_X3_time : GoodIn wsL_law (wsV RL 148 RX3 yX3_time wsX3_time) := goodIn_app (goodIn_of _ (by decide +kernel)) ggL_law_X3_time
set_option maxRecDepth 20000 in
theorem ggL_law_L_move : GoodIn wsL_law wsL_move := goodIn_ca (goodIn_ca (goodIn_ca (goodIn_r _ [397, 63, 64, 105, 398, 399, 400, 2, 401, 69, 70, 20, 131, 132, 133, 134, 75, 76, 16, 112, 367, 368, 369, 370, 110, 111, 355, 402, 403, 404, 19, 405, 38, 406, 407, 408, 409, 310, 311, 312, 313, 42, 303, 304, 40, 84, 282, 283, 284, 285, 286, 287, 288, 289, 290, 291, 189, 190, 191, 292, 293, 294, 295, 296, 297, 298, 299, 300, 301, 302, 305, 306, 307, 308, 309, 680, 681, 682, 699, 700, 701, 702, 703, 704, 705, 706, 707, 708, 709, 710, 711, 712, 713] (by decide +kernel) (by decide +kernel)) (goodIn_sub (fun _ h => List.mem_append_left _ (List.mem_append_left _ (List.mem_append_right _ h))) (by decide +kernel))) (goodIn_sub (fun _ h => List.mem_append_left _ (List.mem_append_right _ h)) (by decide +kernel))) (goodIn_sub (fun _ h => List.mem_append_right _ h) (by decide +kernel))
set_option maxRecDepth 20000 in
theorem gL_law_L_move : GoodIn wsL_law (va_wsS RL 149 yL_move wsL_move) := goodIn_app (goodIn_of _ (by decide +kernel)) ggL_law_L_move
set_option maxRecDepth 20000 in
theorem ggL_law_X3_move : GoodIn wsL_law wsX3_move := goodIn_r _ [413, 90, 89, 54, 148, 149, 150, 5, 151, 122, 91, 92, 93, 414, 415, 416, 417, 418, 419, 420, 421, 147, 51, 50, 57, 240, 241, 242, 243, 52, 53, 335, 336, 337, 338, 339, 340, 341, 342, 49, 48, 58, 47, 683, 684, 685, 686, 687, 688, 689, 690, 691, 692, 693, 694, 695, 696, 697, 698] (by decide +kernel) (by decide +kernel)
set_option maxRecDepth 20000 in
theorem gL_law_X3_move : GoodIn wsL_law (wsV RL 151 RX3 yX3_move wsX3_move) := goodIn_app (goodIn_of _ (by decide +kernel)) ggL_law_X3_move
set_option maxRecDepth 20000 in
theorem ggL_law_L_freedom : GoodIn wsL_law wsL_freedom := goodIn_ca (goodIn_ca (goodIn_r _ [424, 63, 105, 425, 426, 427, 2, 428, 20, 131, 132, 133, 134, 75, 76, 16, 112, 367, 368, 369, 370, 110, 111, 355, 429, 430, 431, 19, 432, 38, 406, 407, 408, 409, 310, 311, 312, 313, 42, 303, 304, 40, 84, 292, 293, 294, 295, 286, 288, 287, 289, 290, 296, 297, 190, 298, 282, 283, 284, 285, 291, 189, 191, 299, 300, 301, 302, 305, 306, 307, 308, 309, 680, 681, 682, 699, 700, 701, 702, 703, 704, 705, 706, 707, 708, 709, 710, 711, 712, 713] (by decide +kernel) (by decide +kernel)) (goodIn_sub (fun _ h => List.mem_append_left _ (List.mem_append_right _ h)) (by decide +kernel))) (goodIn_sub (fun _ h => List.mem_append_right _ h) (by decide +kernel))
set_option maxRecDepth 20000 in
theorem gL_law_L_freedom : GoodIn wsL_law (va_wsS RL 152 yL_freedom wsL_freedom) := goodIn_app (goodIn_of _ (by decide +kernel)) ggL_law_L_freedom
set_option maxRecDepth 20000 in
theorem ggL_law_X3_freedom : GoodIn wsL_law wsX3_freedom := goodIn_r _ [436, 391, 392, 393, 5, 394, 90, 89, 148, 149, 150, 151, 122, 91, 92, 93, 414, 415, 416, 417, 54, 418, 419, 420, 421, 147, 51, 50, 57, 240, 241, 242, 243, 52, 53, 335, 336, 337, 338, 339, 340, 341, 342, 49, 48, 58, 47, 683, 684, 685, 686, 687, 688, 689, 690, 691, 692, 693, 694, 695, 696, 697, 698] (by decide +kernel) (by decide +kernel)
set_option maxRecDepth 20000 in
theorem gL_law_X3_freedom : GoodIn wsL_law (wsV RL 154 RX3 yX3_freedom wsX3_freedom) := goodIn_app (goodIn_of _ (by decide +kernel)) ggL_law_X3_freedom
set_option maxRecDepth 20000 in
theorem ggL_law_L_stages : GoodIn wsL_law wsL_stages := goodIn_ca (goodIn_r _ [439, 105, 440, 441, 442, 2, 443, 20, 367, 368, 369, 370, 110, 111, 355, 444, 445, 446, 19, 447, 42, 270, 84, 448, 449, 450, 451, 38, 291, 189, 190, 191, 680, 681, 682, 709, 710, 711, 712, 713, 699, 700, 701, 702, 703, 704, 705, 706, 707, 708] (by decide +kernel) (by decide +kernel)) (goodIn_sub (fun _ h => List.mem_append_right _ h) (by decide +kernel))
set_option maxRecDepth 20000 in
theorem gL_law_L_stages : GoodIn wsL_law (va_wsS RL 155 yL_stages wsL_stages) := goodIn_app (goodIn_of _ (by decide +kernel)) ggL_law_L_stages
set_option maxRecDepth 20000 in
theorem ggL_law_X3_stages : GoodIn wsL_law wsX3_stages := goodIn_r _ [455, 375, 376, 377, 5, 378, 90, 89, 456, 457, 458, 459, 122, 460, 461, 462, 463, 54, 320, 189, 190, 191, 683, 684, 685, 686, 687, 688, 689, 690, 691, 692, 693, 694, 695, 696, 697, 698] (by decide +kernel) (by decide +kernel)
set_option maxRecDepth 20000 in
theorem gL_law_X3_stages : GoodIn wsL_law (wsV RL 157 RX3 yX3_stages wsX3_stages) := goodIn_app (goodIn_of _ (by decide +kernel)) ggL_law_X3_stages
set_option maxRecDepth 20000 in
theorem ggL_law_L_taken : GoodIn wsL_law wsL_taken := goodIn_ca (goodIn_ca (goodIn_ca (goodIn_r _ [466, 63, 105, 64, 467, 468, 469, 2, 470, 20, 471, 72, 73, 74, 75, 76, 77, 78, 79, 367, 368, 369, 370, 110, 111, 355, 472, 473, 474, 475, 69, 70, 680, 681, 682, 709, 710, 711, 712, 713] (by decide +kernel) (by decide +kernel)) (goodIn_sub (fun _ h => List.mem_append_left _ (List.mem_append_right _ h)) (by decide +kernel))) (goodIn_sub (fun _ h => List.mem_append_right _ h) (by decide +kernel))) (goodIn_sub (fun _ h => List.mem_append_left _ (List.mem_append_left _ (List.mem_append_right _ h))) (by decide +kernel))
set_option maxRecDepth 20000 in
theorem gL_law_L_taken : GoodIn wsL_law (va_wsS RL 158 yL_taken wsL_taken) := goodIn_app (goodIn_of _ (by decide +kernel)) ggL_law_L_taken
set_option maxRecDepth 20000 in
theorem ggL_law_X3_taken : GoodIn wsL_law wsX3_taken := goodIn_r _ [479, 90, 89, 122, 57, 91, 92, 5, 93, 480, 481, 482, 483, 49, 48, 54, 683, 684, 685, 686, 687, 688, 689, 690, 691, 692, 693, 694, 695, 696, 697, 698] (by decide +kernel) (by decide +kernel)
set_option maxRecDepth 20000 in
theorem gL_law_X3_taken : GoodIn wsL_law (wsV RL 160 RX3 yX3_taken wsX3_taken) := goodIn_app (goodIn_of _ (by decide +kernel)) ggL_law_X3_taken
set_option maxRecDepth 20000 in
theorem ggL_law_L_lifetime : GoodIn wsL_law wsL_lifetime := goodIn_ca (goodIn_ca (goodIn_r _ [486, 63, 105, 487, 488, 489, 2, 490, 20, 491, 131, 132, 133, 134, 75, 76, 16, 112, 367, 368, 369, 370, 110, 111, 355, 492, 493, 494, 19, 495, 41, 42, 286, 287, 38, 288, 84, 290, 291, 189, 190, 191, 272, 217, 218, 219, 680, 681, 682, 709, 710, 711, 712, 713, 699, 700, 701, 702, 703, 704, 705, 706, 707, 708] (by decide +kernel) (by decide +kernel)) (goodIn_sub (fun _ h => List.mem_append_left _ (List.mem_append_right _ h)) (by decide +kernel))) (goodIn_sub (fun _ h => List.mem_append_right _ h) (by decide +kernel))
set_option maxRecDepth 20000 in
theorem gL_law_L_lifetime : GoodIn wsL_law (va_wsS RL 161 yL_lifetime wsL_lifetime) := goodIn_app (goodIn_of _ (by decide +kernel)) ggL_law_L_lifetime
set_option maxRecDepth 20000 in
theorem ggL_law_X3_lifetime : GoodIn wsL_law wsX3_lifetime := goodIn_r _ [499, 391, 392, 393, 5, 394, 90, 89, 148, 149, 150, 151, 122, 91, 92, 93, 500, 501, 502, 503, 54, 147, 50, 51, 53, 320, 189, 190, 191, 683, 684, 685, 686, 687, 688, 689, 690, 691, 692, 693, 694, 695, 696, 697, 698] (by decide +kernel) (by decide +kernel)
set_option maxRecDepth 20000 in
theorem gL_law_X3_lifetime : GoodIn wsL_law (wsV RL 163 RX3 yX3_lifetime wsX3_lifetime) := goodIn_app (goodIn_of _ (by decide +kernel)) ggL_law_X3_lifetime
set_option maxRecDepth 20000 in
theorem ggL_law_L_live : GoodIn wsL_law wsL_live := goodIn_ca (goodIn_ca (goodIn_r _ [506, 105, 64, 507, 508, 509, 2, 510, 20, 367, 368, 369, 370, 110, 111, 355, 472, 473, 474, 475, 69, 70, 492, 493, 494, 19, 495, 41, 42, 286, 287, 38, 288, 84, 290, 291, 189, 190, 191, 272, 217, 218, 219, 511, 512, 513, 514, 270, 515, 516, 517, 518, 680, 681, 682, 709, 710, 711, 712, 713, 699, 700, 701, 702, 703, 704, 705, 706, 707, 708] (by decide +kernel) (by decide +kernel)) (goodIn_sub (fun _ h => List.mem_append_right _ h) (by decide +kernel))) (goodIn_sub (fun _ h => List.mem_append_left _ (List.mem_append_left _ (List.mem_append_right _ h))) (by decide +kernel))
set_option maxRecDepth 20000 in
theorem gL_law_L_live : GoodIn wsL_law (va_wsS RL 164 yL_live wsL_live) := goodIn_app (goodIn_of _ (by decide +kernel)) ggL_law_L_live
set_option maxRecDepth 20000 in
theorem ggL_law_X3_live : GoodIn wsL_law wsX3_live := goodIn_r _ [522, 90, 89, 91, 92, 5, 93, 523, 524, 525, 526, 122, 54, 500, 501, 502, 503, 147, 50, 51, 53, 320, 189, 190, 191, 683, 684, 685, 686, 687, 688, 689, 690, 691, 692, 693, 694, 695, 696, 697, 698] (by decide +kernel) (by decide +kernel)
set_option maxRecDepth 20000 in
theorem gL_law_X3_live : GoodIn wsL_law (wsV RL 166 RX3 yX3_live wsX3_live) := goodIn_app (goodIn_of _ (by decide +kernel)) ggL_law_X3_live
set_option maxRecDepth 20000 in
theorem ggL_law_L_registers : GoodIn wsL_law wsL_registers := goodIn_ca (goodIn_r _ [529, 105, 530, 531, 532, 2, 533, 20, 355, 265, 189, 190, 191, 367, 368, 369, 370, 110, 111, 492, 493, 494, 19, 495, 41, 42, 286, 287, 38, 288, 84, 290, 291, 272, 217, 218, 219, 511, 512, 513, 514, 270, 515, 516, 517, 518, 680, 681, 682, 709, 710, 711, 712, 713, 699, 700, 701, 702, 703, 704, 705, 706, 707, 708] (by decide +kernel) (by decide +kernel)) (goodIn_sub (fun _ h => List.mem_append_right _ h) (by decide +kernel))
set_option maxRecDepth 20000 in
theorem gL_law_L_registers : GoodIn wsL_law (va_wsS RL 167 yL_registers wsL_registers) := goodIn_app (goodIn_of _ (by decide +kernel)) ggL_law_L_registers
set_option maxRecDepth 20000 in
theorem ggL_law_X3_registers : GoodIn wsL_law wsX3_registers := goodIn_r _ [537, 90, 320, 189, 190, 191, 523, 524, 525, 5, 526, 122, 54, 500, 501, 502, 503, 147, 50, 51, 53, 375, 376, 377, 378, 89, 683, 684, 685, 686, 687, 688, 689, 690, 691, 692, 693, 694, 695, 696, 697, 698] (by decide +kernel) (by decide +kernel)
set_option maxRecDepth 20000 in
theorem gL_law_X3_registers : GoodIn wsL_law (wsV RL 169 RX3 yX3_registers wsX3_registers) := goodIn_app (goodIn_of _ (by decide +kernel)) ggL_law_X3_registers
set_option maxRecDepth 20000 in
theorem ggL_law_L_copies : GoodIn wsL_law wsL_copies := goodIn_ca (goodIn_ca (goodIn_r _ [540, 63, 105, 541, 542, 543, 2, 544, 20, 131, 132, 133, 134, 75, 76, 16, 112, 367, 368, 369, 370, 110, 111, 355, 492, 493, 494, 19, 495, 41, 42, 286, 287, 38, 288, 84, 290, 291, 189, 190, 191, 272, 217, 218, 219, 545, 546, 547, 548, 680, 681, 682, 699, 700, 701, 702, 703, 704, 705, 706, 707, 708, 709, 710, 711, 712, 713] (by decide +kernel) (by decide +kernel)) (goodIn_sub (fun _ h => List.mem_append_left _ (List.mem_append_right _ h)) (by decide +kernel))) (goodIn_sub (fun _ h => List.mem_append_right _ h) (by decide +kernel))
set_option maxRecDepth 20000 in
theorem gL_law_L_copies : GoodIn wsL_law (va_wsS RL 170 yL_copies wsL_copies) := goodIn_app (goodIn_of _ (by decide +kernel)) ggL_law_L_copies
set_option maxRecDepth 20000 in
theorem ggL_law_X3_copies : GoodIn wsL_law wsX3_copies := goodIn_r _ [552, 391, 392, 393, 5, 394, 90, 89, 148, 149, 150, 151, 122, 91, 92, 93, 553, 554, 555, 556, 500, 501, 502, 503, 54, 147, 50, 51, 53, 320, 189, 190, 191, 683, 684, 685, 686, 687, 688, 689, 690, 691, 692, 693, 694, 695, 696, 697, 698] (by decide +kernel) (by decide +kernel)
set_option maxRecDepth 20000 in
theorem gL_law_X3_copies : GoodIn wsL_law (wsV RL 172 RX3 yX3_copies wsX3_copies) := goodIn_app (goodIn_of _ (by decide +kernel)) ggL_law_X3_copies
set_option maxRecDepth 20000 in
theorem ggL_law_L_unrolling : GoodIn wsL_law wsL_unrolling := goodIn_ca (goodIn_r _ [559, 105, 560, 561, 562, 2, 563, 20, 16, 112, 564, 565, 367, 368, 369, 370, 110, 111, 355, 492, 493, 494, 19, 495, 41, 42, 286, 287, 38, 288, 84, 290, 291, 189, 190, 191, 272, 217, 218, 219, 545, 546, 547, 548, 566, 567, 568, 680, 681, 682, 699, 700, 701, 702, 703, 704, 705, 706, 707, 708, 709, 710, 711, 712, 713] (by decide +kernel) (by decide +kernel)) (goodIn_sub (fun _ h => List.mem_append_right _ h) (by decide +kernel))
set_option maxRecDepth 20000 in
theorem gL_law_L_unrolling : GoodIn wsL_law (va_wsS RL 173 yL_unrolling wsL_unrolling) := goodIn_app (goodIn_of _ (by decide +kernel)) ggL_law_L_unrolling
set_option maxRecDepth 20000 in
theorem ggL_law_X3_unrolling : GoodIn wsL_law wsX3_unrolling := goodIn_r _ [572, 122, 573, 333, 375, 376, 377, 5, 378, 90, 89, 553, 554, 555, 556, 500, 501, 502, 503, 54, 147, 50, 51, 53, 320, 189, 190, 191, 683, 684, 685, 686, 687, 688, 689, 690, 691, 692, 693, 694, 695, 696, 697, 698] (by decide +kernel) (by decide +kernel)
set_option maxRecDepth 20000 in
theorem gL_law_X3_unrolling : GoodIn wsL_law (wsV RL 175 RX3 yX3_unrolling wsX3_unrolling) := goodIn_app (goodIn_of _ (by decide +kernel)) ggL_law_X3_unrolling
set_option maxRecDepth 20000 in
theorem ggL_law_L_cycles : GoodIn wsL_law wsL_cycles := goodIn_ca (goodIn_ca (goodIn_r _ [576, 105, 64, 577, 578, 579, 2, 580, 16, 112, 20, 355, 367, 368, 369, 370, 110, 111, 581, 582, 583, 69, 70, 584, 449, 450, 19, 451, 42, 270, 38, 291, 189, 190, 191, 680, 681, 682, 699, 700, 701, 702, 703, 704, 705, 706, 707, 708, 709, 710, 711, 712, 713] (by decide +kernel) (by decide +kernel)) (goodIn_sub (fun _ h => List.mem_append_right _ h) (by decide +kernel))) (goodIn_sub (fun _ h => List.mem_append_left _ (List.mem_append_left _ (List.mem_append_right _ h))) (by decide +kernel))
set_option maxRecDepth 20000 in
theorem gL_law_L_cycles : GoodIn wsL_law (va_wsS RL 176 yL_cycles wsL_cycles) := goodIn_app (goodIn_of _ (by decide +kernel)) ggL_law_L_cycles
set_option maxRecDepth 20000 in
theorem ggL_law_X3_cycles : GoodIn wsL_law wsX3_cycles := goodIn_r _ [588, 90, 89, 122, 91, 92, 5, 93, 460, 461, 462, 463, 54, 320, 189, 190, 191, 683, 684, 685, 686, 687, 688, 689, 690, 691, 692, 693, 694, 695, 696, 697, 698] (by decide +kernel) (by decide +kernel)
set_option maxRecDepth 20000 in
theorem gL_law_X3_cycles : GoodIn wsL_law (wsV RL 178 RX3 yX3_cycles wsX3_cycles) := goodIn_app (goodIn_of _ (by decide +kernel)) ggL_law_X3_cycles
set_option maxRecDepth 20000 in
theorem ggL_law_L_issued : GoodIn wsL_law wsL_issued := goodIn_ca (goodIn_ca (goodIn_r _ [591, 105, 64, 592, 593, 594, 2, 595, 16, 112, 367, 368, 369, 370, 110, 111, 20, 355, 581, 582, 583, 69, 70, 596, 597, 598, 599, 600, 601, 602, 386, 680, 681, 682, 699, 700, 701, 702, 703, 704, 705, 706, 707, 708, 709, 710, 711, 712, 713] (by decide +kernel) (by decide +kernel)) (goodIn_sub (fun _ h => List.mem_append_right _ h) (by decide +kernel))) (goodIn_sub (fun _ h => List.mem_append_left _ (List.mem_append_left _ (List.mem_append_right _ h))) (by decide +kernel))
set_option maxRecDepth 20000 in
theorem gL_law_L_issued : GoodIn wsL_law (va_wsS RL 179 yL_issued wsL_issued) := goodIn_app (goodIn_of _ (by decide +kernel)) ggL_law_L_issued
set_option maxRecDepth 20000 in
theorem ggL_law_X3_issued : GoodIn wsL_law wsX3_issued := goodIn_r _ [606, 90, 89, 91, 92, 5, 93, 607, 608, 609, 610, 122, 54, 683, 684, 685, 686, 687, 688, 689, 690, 691, 692, 693, 694, 695, 696, 697, 698] (by decide +kernel) (by decide +kernel)
set_option maxRecDepth 20000 in
theorem gL_law_X3_issued : GoodIn wsL_law (wsV RL 181 RX3 yX3_issued wsX3_issued) := goodIn_app (goodIn_of _ (by decide +kernel)) ggL_law_X3_issued
set_option maxRecDepth 20000 in
theorem ggL_law_L_issue : GoodIn wsL_law wsL_issue := goodIn_ca (goodIn_ca (goodIn_ca (goodIn_r _ [613, 105, 64, 63, 614, 615, 616, 2, 617, 75, 76, 16, 112, 367, 368, 369, 370, 110, 111, 20, 355, 581, 582, 583, 69, 70, 596, 597, 598, 599, 600, 601, 602, 386, 618, 619, 620, 621, 622, 623, 624, 625, 680, 681, 682, 699, 700, 701, 702, 703, 704, 705, 706, 707, 708, 709, 710, 711, 712, 713] (by decide +kernel) (by decide +kernel)) (goodIn_sub (fun _ h => List.mem_append_left _ (List.mem_append_right _ h)) (by decide +kernel))) (goodIn_sub (fun _ h => List.mem_append_right _ h) (by decide +kernel))) (goodIn_sub (fun _ h => List.mem_append_left _ (List.mem_append_left _ (List.mem_append_right _ h))) (by decide +kernel))
set_option maxRecDepth 20000 in
theorem gL_law_L_issue : GoodIn wsL_law (va_wsS RL 182 yL_issue wsL_issue) := goodIn_app (goodIn_of _ (by decide +kernel)) ggL_law_L_issue
set_option maxRecDepth 20000 in
theorem ggL_law_X3_issue : GoodIn wsL_law wsX3_issue := goodIn_r _ [629, 90, 89, 91, 92, 5, 93, 607, 608, 609, 610, 122, 54, 630, 631, 632, 633, 683, 684, 685, 686, 687, 688, 689, 690, 691, 692, 693, 694, 695, 696, 697, 698] (by decide +kernel) (by decide +kernel)
set_option maxRecDepth 20000 in
theorem gL_law_X3_issue : GoodIn wsL_law (wsV RL 185 RX3 yX3_issue wsX3_issue) := goodIn_app (goodIn_of _ (by decide +kernel)) ggL_law_X3_issue
set_option maxRecDepth 20000 in
theorem ggL_law_L_prologue : GoodIn wsL_law wsL_prologue := goodIn_ca (goodIn_r _ [636, 105, 637, 638, 639, 2, 640, 20, 16, 112, 367, 368, 369, 370, 110, 111, 355, 444, 445, 446, 19, 447, 42, 270, 84, 448, 449, 450, 451, 38, 291, 189, 190, 191, 641, 642, 643, 644, 680, 681, 682, 699, 700, 701, 702, 703, 704, 705, 706, 707, 708, 709, 710, 711, 712, 713] (by decide +kernel) (by decide +kernel)) (goodIn_sub (fun _ h => List.mem_append_right _ h) (by decide +kernel))
set_option maxRecDepth 20000 in
theorem gL_law_L_prologue : GoodIn wsL_law (va_wsS RL 186 yL_prologue wsL_prologue) := goodIn_app (goodIn_of _ (by decide +kernel)) ggL_law_L_prologue
set_option maxRecDepth 20000 in
theorem ggL_law_X3_prologue : GoodIn wsL_law wsX3_prologue := goodIn_r _ [648, 90, 375, 376, 377, 5, 378, 89, 456, 457, 458, 459, 122, 460, 461, 462, 463, 54, 320, 189, 190, 191, 607, 608, 609, 610, 683, 684, 685, 686, 687, 688, 689, 690, 691, 692, 693, 694, 695, 696, 697, 698] (by decide +kernel) (by decide +kernel)
set_option maxRecDepth 20000 in
theorem gL_law_X3_prologue : GoodIn wsL_law (wsV RL 188 RX3 yX3_prologue wsX3_prologue) := goodIn_app (goodIn_of _ (by decide +kernel)) ggL_law_X3_prologue
set_option maxRecDepth 20000 in
theorem ggL_law_L_epilogue : GoodIn wsL_law wsL_epilogue := goodIn_ca (goodIn_r _ [651, 105, 652, 653, 654, 2, 655, 16, 112, 20, 367, 368, 369, 370, 110, 111, 355, 641, 642, 643, 19, 644, 38, 84, 680, 681, 682, 699, 700, 701, 702, 703, 704, 705, 706, 707, 708, 709, 710, 711, 712, 713] (by decide +kernel) (by decide +kernel)) (goodIn_sub (fun _ h => List.mem_append_right _ h) (by decide +kernel))
set_option maxRecDepth 20000 in
theorem gL_law_L_epilogue : GoodIn wsL_law (va_wsS RL 189 yL_epilogue wsL_epilogue) := goodIn_app (goodIn_of _ (by decide +kernel)) ggL_law_L_epilogue
set_option maxRecDepth 20000 in
theorem ggL_law_X3_epilogue : GoodIn wsL_law wsX3_epilogue := goodIn_r _ [659, 90, 320, 189, 190, 191, 375, 376, 377, 5, 378, 89, 460, 461, 462, 463, 122, 54, 456, 457, 458, 459, 607, 608, 609, 610, 683, 684, 685, 686, 687, 688, 689, 690, 691, 692, 693, 694, 695, 696, 697, 698] (by decide +kernel) (by decide +kernel)
set_option maxRecDepth 20000 in
theorem gL_law_X3_epilogue : GoodIn wsL_law (wsV RL 191 RX3 yX3_epilogue wsX3_epilogue) := goodIn_app (goodIn_of _ (by decide +kernel)) ggL_law_X3_epilogue
set_option maxRecDepth 20000 in
theorem ggL_law_X2_digest : GoodIn wsL_law wsX2_digest := goodIn_r _ [663, 664, 16, 71, 112, 665, 666, 130, 667, 668, 159, 669, 20, 355, 386, 670, 671, 2, 672, 673, 680, 681, 682, 699, 700, 701, 702, 703, 704, 705, 706, 707, 708, 709, 710, 711, 712, 713] (by decide +kernel) (by decide +kernel)
set_option maxRecDepth 20000 in
theorem gL_law_X2_digest : GoodIn wsL_law (wsV RL 192 RX2 yX2_digest wsX2_digest) := goodIn_app (goodIn_of _ (by decide +kernel)) ggL_law_X2_digest
set_option maxRecDepth 20000 in
theorem ggL_law_X3_digest : GoodIn wsL_law wsX3_digest := goodIn_r _ [677, 89, 678, 679, 47, 122, 48, 49, 147, 50, 51, 52, 53, 90, 54, 683, 684, 685, 686, 687, 688, 689, 690, 691, 692, 693, 694, 695, 696, 697, 698] (by decide +kernel) (by decide +kernel)
set_option maxRecDepth 20000 in
theorem gL_law_X3_digest : GoodIn wsL_law (wsV RL 196 RX3 yX3_digest wsX3_digest) := goodIn_app (goodIn_of _ (by decide +kernel)) ggL_law_X3_digest
