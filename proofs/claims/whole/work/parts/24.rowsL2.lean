set_option maxRecDepth 20000 in
theorem ggL_law_X2_init : GoodIn wsL_law wsX2_init := goodIn_r _ [9, 10, 11, 12, 13, 14, 15, 16, 17, 18, 19, 20, 21, 22, 23, 24, 25, 26, 27, 28, 29, 30, 31, 32, 33, 34, 35, 36, 37, 38, 39, 40, 41, 42, 700, 701, 702, 703, 704, 705, 706, 707, 708, 709, 681, 682, 683, 710, 711, 712, 713, 714] (by decide +kernel) (by decide +kernel)
set_option maxRecDepth 20000 in
theorem gL_law_X2_init : GoodIn wsL_law (wsX2_init) := ggL_law_X2_init
set_option maxRecDepth 20000 in
theorem ggL_law_X3_init : GoodIn wsL_law wsX3_init := goodIn_r _ [45, 46, 11, 12, 25, 47, 48, 49, 50, 51, 52, 53, 54, 55, 56, 57, 58, 684, 685, 686, 687, 688, 689, 690, 691, 692, 693, 694, 695, 696, 697, 698, 699] (by decide +kernel) (by decide +kernel)
set_option maxRecDepth 20000 in
theorem gL_law_X3_init : GoodIn wsL_law (wsX3_init) := ggL_law_X3_init
set_option maxRecDepth 20000 in
theorem ggL_law_L_setUnits : GoodIn wsL_law wsL_setUnits := goodIn_ca (goodIn_ca (goodIn_r _ [62, 63, 64, 65, 66, 67, 2, 68, 69, 70, 16, 71, 20, 72, 73, 74, 75, 76, 77, 78, 79, 80, 81, 82, 19, 83, 84, 681, 682, 683, 700, 701, 702, 703, 704, 705, 706, 707, 708, 709, 710, 711, 712, 713, 714] (by decide +kernel) (by decide +kernel)) (goodIn_sub (fun _ h => List.mem_append_left _ (List.mem_append_left _ (List.mem_append_right _ h))) (by decide +kernel))) (goodIn_sub (fun _ h => List.mem_append_left _ (List.mem_append_right _ h)) (by decide +kernel))
set_option maxRecDepth 20000 in
theorem gL_law_L_setUnits : GoodIn wsL_law (va_wsS RL 91 yL_setUnits wsL_setUnits) := goodIn_app (goodIn_of _ (by decide +kernel)) ggL_law_L_setUnits
set_option maxRecDepth 20000 in
theorem ggL_law_X3_setUnits : GoodIn wsL_law wsX3_setUnits := goodIn_r _ [88, 89, 47, 90, 91, 92, 5, 93, 94, 95, 96, 97, 684, 685, 686, 687, 688, 689, 690, 691, 692, 693, 694, 695, 696, 697, 698, 699] (by decide +kernel) (by decide +kernel)
set_option maxRecDepth 20000 in
theorem gL_law_X3_setUnits : GoodIn wsL_law (wsV RL 96 RX3 yX3_setUnits wsX3_setUnits) := goodIn_app (goodIn_of _ (by decide +kernel)) ggL_law_X3_setUnits
set_option maxRecDepth 20000 in
theorem ggL_law_X3_thrown : GoodIn wsL_law wsX3_thrown := goodIn_r _ [101, 89, 684, 685, 686, 687, 688, 689, 690, 691, 692, 693, 694, 695, 696, 697, 698, 699] (by decide +kernel) (by decide +kernel)
set_option maxRecDepth 20000 in
theorem gL_law_X3_thrown : GoodIn wsL_law (wsV RL 97 RX3 yX3_thrown wsX3_thrown) := goodIn_app (goodIn_of _ (by decide +kernel)) ggL_law_X3_thrown
set_option maxRecDepth 20000 in
theorem ggL_law_L_addOperation : GoodIn wsL_law wsL_addOperation := goodIn_ca (goodIn_ca (goodIn_r _ [104, 64, 105, 106, 107, 108, 2, 109, 69, 70, 110, 111, 16, 112, 20, 77, 78, 79, 80, 81, 82, 19, 83, 84, 113, 114, 115, 15, 116, 27, 117, 28, 681, 682, 683, 700, 701, 702, 703, 704, 705, 706, 707, 708, 709, 710, 711, 712, 713, 714] (by decide +kernel) (by decide +kernel)) (goodIn_sub (fun _ h => List.mem_append_left _ (List.mem_append_left _ (List.mem_append_right _ h))) (by decide +kernel))) (goodIn_sub (fun _ h => List.mem_append_right _ h) (by decide +kernel))
set_option maxRecDepth 20000 in
theorem gL_law_L_addOperation : GoodIn wsL_law (va_wsS RL 100 yL_addOperation wsL_addOperation) := goodIn_app (goodIn_of _ (by decide +kernel)) ggL_law_L_addOperation
set_option maxRecDepth 20000 in
theorem ggL_law_X3_addOperation : GoodIn wsL_law wsX3_addOperation := goodIn_r _ [121, 89, 122, 48, 49, 90, 91, 92, 5, 93, 94, 95, 96, 97, 684, 685, 686, 687, 688, 689, 690, 691, 692, 693, 694, 695, 696, 697, 698, 699] (by decide +kernel) (by decide +kernel)
set_option maxRecDepth 20000 in
theorem gL_law_X3_addOperation : GoodIn wsL_law (wsV RL 102 RX3 yX3_addOperation wsX3_addOperation) := goodIn_app (goodIn_of _ (by decide +kernel)) ggL_law_X3_addOperation
set_option maxRecDepth 20000 in
theorem ggL_law_L_addDependence : GoodIn wsL_law wsL_addDependence := goodIn_ca (goodIn_ca (goodIn_ca (goodIn_r _ [125, 63, 64, 105, 126, 127, 128, 2, 129, 69, 70, 110, 111, 16, 130, 20, 131, 132, 133, 134, 75, 76, 112, 135, 136, 137, 80, 81, 82, 19, 83, 84, 138, 139, 140, 15, 141, 29, 142, 30, 31, 32, 681, 682, 683, 700, 701, 702, 703, 704, 705, 706, 707, 708, 709, 710, 711, 712, 713, 714] (by decide +kernel) (by decide +kernel)) (goodIn_sub (fun _ h => List.mem_append_left _ (List.mem_append_left _ (List.mem_append_right _ h))) (by decide +kernel))) (goodIn_sub (fun _ h => List.mem_append_right _ h) (by decide +kernel))) (goodIn_sub (fun _ h => List.mem_append_left _ (List.mem_append_right _ h)) (by decide +kernel))
set_option maxRecDepth 20000 in
theorem gL_law_L_addDependence : GoodIn wsL_law (va_wsS RL 103 yL_addDependence wsL_addDependence) := goodIn_app (goodIn_of _ (by decide +kernel)) ggL_law_L_addDependence
set_option maxRecDepth 20000 in
theorem ggL_law_X3_addDependence : GoodIn wsL_law wsX3_addDependence := goodIn_r _ [146, 89, 147, 50, 51, 52, 53, 90, 148, 149, 150, 5, 151, 122, 91, 92, 93, 94, 95, 96, 97, 684, 685, 686, 687, 688, 689, 690, 691, 692, 693, 694, 695, 696, 697, 698, 699] (by decide +kernel) (by decide +kernel)
set_option maxRecDepth 20000 in
theorem gL_law_X3_addDependence : GoodIn wsL_law (wsV RL 106 RX3 yX3_addDependence wsX3_addDependence) := goodIn_app (goodIn_of _ (by decide +kernel)) ggL_law_X3_addDependence
set_option maxRecDepth 20000 in
theorem ggL_law_L_setDelay : GoodIn wsL_law wsL_setDelay := goodIn_ca (goodIn_ca (goodIn_r _ [154, 63, 64, 155, 156, 157, 2, 158, 75, 76, 16, 130, 159, 20, 135, 136, 137, 69, 70, 80, 81, 82, 19, 83, 84, 681, 682, 683, 700, 701, 702, 703, 704, 705, 706, 707, 708, 709, 710, 711, 712, 713, 714] (by decide +kernel) (by decide +kernel)) (goodIn_sub (fun _ h => List.mem_append_left _ (List.mem_append_right _ h)) (by decide +kernel))) (goodIn_sub (fun _ h => List.mem_append_left _ (List.mem_append_left _ (List.mem_append_right _ h))) (by decide +kernel))
set_option maxRecDepth 20000 in
theorem gL_law_L_setDelay : GoodIn wsL_law (va_wsS RL 107 yL_setDelay wsL_setDelay) := goodIn_app (goodIn_of _ (by decide +kernel)) ggL_law_L_setDelay
set_option maxRecDepth 20000 in
theorem ggL_law_X3_setDelay : GoodIn wsL_law wsX3_setDelay := goodIn_r _ [163, 89, 147, 52, 90, 91, 92, 5, 93, 94, 95, 96, 97, 684, 685, 686, 687, 688, 689, 690, 691, 692, 693, 694, 695, 696, 697, 698, 699] (by decide +kernel) (by decide +kernel)
set_option maxRecDepth 20000 in
theorem gL_law_X3_setDelay : GoodIn wsL_law (wsV RL 109 RX3 yX3_setDelay wsX3_setDelay) := goodIn_app (goodIn_of _ (by decide +kernel)) ggL_law_X3_setDelay
set_option maxRecDepth 20000 in
theorem ggL_law_X2_operationCount : GoodIn wsL_law wsX2_operationCount := goodIn_r _ [167, 16, 112, 681, 682, 683, 700, 701, 702, 703, 704, 705, 706, 707, 708, 709] (by decide +kernel) (by decide +kernel)
set_option maxRecDepth 20000 in
theorem gL_law_X2_operationCount : GoodIn wsL_law (wsV RL 110 RX2 yX2_operationCount wsX2_operationCount) := goodIn_app (goodIn_of _ (by decide +kernel)) ggL_law_X2_operationCount
set_option maxRecDepth 20000 in
theorem ggL_law_X3_operationCount : GoodIn wsL_law wsX3_operationCount := goodIn_r _ [171, 89, 122, 684, 685, 686, 687, 688, 689, 690, 691, 692, 693, 694, 695, 696, 697, 698, 699] (by decide +kernel) (by decide +kernel)
set_option maxRecDepth 20000 in
theorem gL_law_X3_operationCount : GoodIn wsL_law (wsV RL 113 RX3 yX3_operationCount wsX3_operationCount) := goodIn_app (goodIn_of _ (by decide +kernel)) ggL_law_X3_operationCount
set_option maxRecDepth 20000 in
theorem ggL_law_X2_dependenceCount : GoodIn wsL_law wsX2_dependenceCount := goodIn_r _ [175, 16, 130, 681, 682, 683, 700, 701, 702, 703, 704, 705, 706, 707, 708, 709] (by decide +kernel) (by decide +kernel)
set_option maxRecDepth 20000 in
theorem gL_law_X2_dependenceCount : GoodIn wsL_law (wsV RL 114 RX2 yX2_dependenceCount wsX2_dependenceCount) := goodIn_app (goodIn_of _ (by decide +kernel)) ggL_law_X2_dependenceCount
set_option maxRecDepth 20000 in
theorem ggL_law_X3_dependenceCount : GoodIn wsL_law wsX3_dependenceCount := goodIn_r _ [179, 89, 147, 684, 685, 686, 687, 688, 689, 690, 691, 692, 693, 694, 695, 696, 697, 698, 699] (by decide +kernel) (by decide +kernel)
set_option maxRecDepth 20000 in
theorem gL_law_X3_dependenceCount : GoodIn wsL_law (wsV RL 117 RX3 yX3_dependenceCount wsX3_dependenceCount) := goodIn_app (goodIn_of _ (by decide +kernel)) ggL_law_X3_dependenceCount
set_option maxRecDepth 20000 in
theorem ggL_law_X2_resourceBound : GoodIn wsL_law wsX2_resourceBound := goodIn_r _ [183, 16, 184, 185, 186, 15, 187, 26, 188, 189, 190, 191, 192, 193, 194, 195, 117, 27, 28, 681, 682, 683, 700, 701, 702, 703, 704, 705, 706, 707, 708, 709] (by decide +kernel) (by decide +kernel)
set_option maxRecDepth 20000 in
theorem gL_law_X2_resourceBound : GoodIn wsL_law (wsV RL 118 RX2 yX2_resourceBound wsX2_resourceBound) := goodIn_app (goodIn_of _ (by decide +kernel)) ggL_law_X2_resourceBound
set_option maxRecDepth 20000 in
theorem ggL_law_X3_resourceBound : GoodIn wsL_law wsX3_resourceBound := goodIn_r _ [199, 89, 200, 201, 202, 5, 203, 122, 48, 49, 47, 684, 685, 686, 687, 688, 689, 690, 691, 692, 693, 694, 695, 696, 697, 698, 699] (by decide +kernel) (by decide +kernel)
set_option maxRecDepth 20000 in
theorem gL_law_X3_resourceBound : GoodIn wsL_law (wsV RL 121 RX3 yX3_resourceBound wsX3_resourceBound) := goodIn_app (goodIn_of _ (by decide +kernel)) ggL_law_X3_resourceBound
set_option maxRecDepth 20000 in
theorem ggL_law_X2_recurrenceBound : GoodIn wsL_law wsX2_recurrenceBound := goodIn_r _ [207, 16, 208, 209, 210, 15, 211, 212, 213, 214, 215, 33, 117, 216, 217, 218, 219, 220, 221, 222, 223, 142, 30, 31, 32, 29, 681, 682, 683, 700, 701, 702, 703, 704, 705, 706, 707, 708, 709] (by decide +kernel) (by decide +kernel)
set_option maxRecDepth 20000 in
theorem gL_law_X2_recurrenceBound : GoodIn wsL_law (wsV RL 122 RX2 yX2_recurrenceBound wsX2_recurrenceBound) := goodIn_app (goodIn_of _ (by decide +kernel)) ggL_law_X2_recurrenceBound
set_option maxRecDepth 20000 in
theorem ggL_law_X3_recurrenceBound : GoodIn wsL_law wsX3_recurrenceBound := goodIn_r _ [227, 89, 228, 229, 230, 5, 231, 232, 233, 234, 235, 122, 55, 236, 237, 238, 239, 147, 51, 50, 240, 241, 242, 243, 52, 53, 684, 685, 686, 687, 688, 689, 690, 691, 692, 693, 694, 695, 696, 697, 698, 699] (by decide +kernel) (by decide +kernel)
set_option maxRecDepth 20000 in
theorem gL_law_X3_recurrenceBound : GoodIn wsL_law (wsV RL 125 RX3 yX3_recurrenceBound wsX3_recurrenceBound) := goodIn_app (goodIn_of _ (by decide +kernel)) ggL_law_X3_recurrenceBound
set_option maxRecDepth 20000 in
theorem ggL_law_L_height : GoodIn wsL_law wsL_height := goodIn_ca (goodIn_ca (goodIn_r _ [246, 63, 64, 247, 248, 249, 2, 250, 69, 70, 16, 251, 131, 132, 133, 134, 75, 76, 112, 208, 209, 210, 15, 211, 212, 213, 214, 215, 33, 117, 216, 217, 218, 219, 220, 221, 222, 223, 142, 30, 31, 32, 29, 252, 681, 682, 683, 700, 701, 702, 703, 704, 705, 706, 707, 708, 709] (by decide +kernel) (by decide +kernel)) (goodIn_sub (fun _ h => List.mem_append_left _ (List.mem_append_left _ (List.mem_append_right _ h))) (by decide +kernel))) (goodIn_sub (fun _ h => List.mem_append_left _ (List.mem_append_right _ h)) (by decide +kernel))
set_option maxRecDepth 20000 in
theorem gL_law_L_height : GoodIn wsL_law (va_wsS RL 126 yL_height wsL_height) := goodIn_app (goodIn_of _ (by decide +kernel)) ggL_law_L_height
set_option maxRecDepth 20000 in
theorem ggL_law_X3_height : GoodIn wsL_law wsX3_height := goodIn_r _ [256, 89, 55, 148, 149, 150, 5, 151, 122, 91, 92, 93, 94, 95, 96, 97, 228, 229, 230, 231, 232, 233, 234, 235, 236, 237, 238, 239, 147, 51, 50, 240, 241, 242, 243, 52, 53, 684, 685, 686, 687, 688, 689, 690, 691, 692, 693, 694, 695, 696, 697, 698, 699] (by decide +kernel) (by decide +kernel)
set_option maxRecDepth 20000 in
theorem gL_law_X3_height : GoodIn wsL_law (wsV RL 128 RX3 yX3_height wsX3_height) := goodIn_app (goodIn_of _ (by decide +kernel)) ggL_law_X3_height
set_option maxRecDepth 20000 in
theorem ggL_law_L_schedule : GoodIn wsL_law wsL_schedule := goodIn_ca (goodIn_r _ [259, 64, 260, 261, 262, 2, 263, 69, 70, 20, 264, 16, 265, 189, 190, 191, 80, 81, 82, 19, 83, 84, 208, 209, 210, 15, 211, 212, 213, 214, 215, 33, 117, 216, 217, 218, 219, 220, 221, 222, 223, 142, 30, 31, 32, 29, 184, 185, 186, 187, 26, 188, 192, 193, 194, 195, 27, 28, 266, 267, 268, 269, 42, 38, 40, 270, 271, 272, 273, 274, 275, 276, 277, 278, 279, 280, 281, 282, 283, 284, 285, 286, 287, 288, 289, 290, 291, 292, 293, 294, 295, 296, 297, 298, 299, 300, 301, 302, 303, 304, 305, 306, 307, 308, 309, 310, 311, 312, 313, 314, 315, 681, 682, 683, 710, 711, 712, 713, 714, 700, 701, 702, 703, 704, 705, 706, 707, 708, 709] (by decide +kernel) (by decide +kernel)) (goodIn_sub (fun _ h => List.mem_append_left _ (List.mem_append_left _ (List.mem_append_right _ h))) (by decide +kernel))
set_option maxRecDepth 20000 in
theorem gL_law_L_schedule : GoodIn wsL_law (va_wsS RL 129 yL_schedule wsL_schedule) := goodIn_app (goodIn_of _ (by decide +kernel)) ggL_law_L_schedule
set_option maxRecDepth 20000 in
theorem ggL_law_X3_schedule : GoodIn wsL_law wsX3_schedule := goodIn_r _ [319, 89, 320, 90, 321, 189, 190, 191, 91, 92, 5, 93, 94, 95, 96, 97, 228, 229, 230, 231, 232, 233, 234, 235, 122, 55, 236, 237, 238, 239, 147, 51, 50, 240, 241, 242, 243, 52, 53, 200, 201, 202, 203, 48, 49, 47, 322, 323, 324, 325, 57, 326, 327, 328, 329, 330, 331, 332, 333, 334, 54, 335, 283, 284, 336, 337, 338, 339, 340, 341, 342, 343, 58, 684, 685, 686, 687, 688, 689, 690, 691, 692, 693, 694, 695, 696, 697, 698, 699] (by decide +kernel) (by decide +kernel)
set_option maxRecDepth 20000 in
theorem gL_law_X3_schedule : GoodIn wsL_law (wsV RL 132 RX3 yX3_schedule wsX3_schedule) := goodIn_app (goodIn_of _ (by decide +kernel)) ggL_law_X3_schedule
set_option maxRecDepth 20000 in
theorem ggL_law_X2_attempts : GoodIn wsL_law wsX2_attempts := goodIn_r _ [347, 264, 681, 682, 683] (by decide +kernel) (by decide +kernel)
set_option maxRecDepth 20000 in
theorem gL_law_X2_attempts : GoodIn wsL_law (wsV RL 133 RX2 yX2_attempts wsX2_attempts) := goodIn_app (goodIn_of _ (by decide +kernel)) ggL_law_X2_attempts
set_option maxRecDepth 20000 in
theorem ggL_law_X3_attempts : GoodIn wsL_law wsX3_attempts := goodIn_r _ [351, 89, 320, 684, 685, 686, 687, 688, 689, 690, 691, 692, 693, 694, 695, 696, 697, 698, 699] (by decide +kernel) (by decide +kernel)
set_option maxRecDepth 20000 in
theorem gL_law_X3_attempts : GoodIn wsL_law (wsV RL 136 RX3 yX3_attempts wsX3_attempts) := goodIn_app (goodIn_of _ (by decide +kernel)) ggL_law_X3_attempts
set_option maxRecDepth 20000 in
theorem ggL_law_X2_hasSchedule : GoodIn wsL_law wsX2_hasSchedule := goodIn_r _ [355, 20, 356, 681, 682, 683, 710, 711, 712, 713, 714] (by decide +kernel) (by decide +kernel)
set_option maxRecDepth 20000 in
theorem gL_law_X2_hasSchedule : GoodIn wsL_law (wsV RL 137 RX2 yX2_hasSchedule wsX2_hasSchedule) := goodIn_app (goodIn_of _ (by decide +kernel)) ggL_law_X2_hasSchedule
set_option maxRecDepth 20000 in
theorem ggL_law_X3_hasSchedule : GoodIn wsL_law wsX3_hasSchedule := goodIn_r _ [360, 89, 90, 684, 685, 686, 687, 688, 689, 690, 691, 692, 693, 694, 695, 696, 697, 698, 699] (by decide +kernel) (by decide +kernel)
set_option maxRecDepth 20000 in
theorem gL_law_X3_hasSchedule : GoodIn wsL_law (wsV RL 141 RX3 yX3_hasSchedule wsX3_hasSchedule) := goodIn_app (goodIn_of _ (by decide +kernel)) ggL_law_X3_hasSchedule
set_option maxRecDepth 20000 in
theorem ggL_law_L_interval : GoodIn wsL_law wsL_interval := goodIn_ca (goodIn_r _ [363, 105, 364, 365, 366, 2, 367, 20, 356, 368, 369, 370, 371, 110, 111, 681, 682, 683, 710, 711, 712, 713, 714] (by decide +kernel) (by decide +kernel)) (goodIn_sub (fun _ h => List.mem_append_right _ h) (by decide +kernel))
set_option maxRecDepth 20000 in
theorem gL_law_L_interval : GoodIn wsL_law (va_wsS RL 142 yL_interval wsL_interval) := goodIn_app (goodIn_of _ (by decide +kernel)) ggL_law_L_interval
set_option maxRecDepth 20000 in
theorem ggL_law_X3_interval : GoodIn wsL_law wsX3_interval := goodIn_r _ [375, 90, 376, 377, 378, 5, 379, 89, 684, 685, 686, 687, 688, 689, 690, 691, 692, 693, 694, 695, 696, 697, 698, 699] (by decide +kernel) (by decide +kernel)
set_option maxRecDepth 20000 in
theorem gL_law_X3_interval : GoodIn wsL_law (wsV RL 145 RX3 yX3_interval wsX3_interval) := goodIn_app (goodIn_of _ (by decide +kernel)) ggL_law_X3_interval
set_option maxRecDepth 20000 in
theorem ggL_law_L_time : GoodIn wsL_law wsL_time := goodIn_ca (goodIn_ca (goodIn_r _ [382, 63, 105, 383, 384, 385, 2, 386, 20, 387, 131, 132, 133, 134, 75, 76, 16, 112, 368, 369, 370, 371, 110, 111, 356, 681, 682, 683, 710, 711, 712, 713, 714, 700, 701, 702, 703, 704, 705, 706, 707, 708, 709] (by decide +kernel) (by decide +kernel)) (goodIn_sub (fun _ h => List.mem_append_left _ (List.mem_append_right _ h)) (by decide +kernel))) (goodIn_sub (fun _ h => List.mem_append_right _ h) (by decide +kernel))
set_option maxRecDepth 20000 in
theorem gL_law_L_time : GoodIn wsL_law (va_wsS RL 146 yL_time wsL_time) := goodIn_app (goodIn_of _ (by decide +kernel)) ggL_law_L_time
set_option maxRecDepth 20000 in
theorem ggL_law_X3_time : GoodIn wsL_law wsX3_time := goodIn_r _ [391, 54, 392, 393, 394, 5, 395, 90, 89, 148, 149, 150, 151, 122, 91, 92, 93, 684, 685, 686, 687, 688, 689, 690, 691, 692, 693, 694, 695, 696, 697, 698, 699] (by decide +kernel) (by decide +kernel)
set_option maxRecDepth 20000 in
theorem gL_law_X3_time : GoodIn wsL_law (wsV RL 148 RX3 yX3_time wsX3_time) := goodIn_app (goodIn_of _ (by decide +kernel)) ggL_law_X3_time
set_option maxRecDepth 20000 in
theorem ggL_law_L_move : GoodIn wsL_law wsL_move := goodIn_ca (goodIn_ca (goodIn_ca (goodIn_r _ [398, 63, 64, 105, 399, 400, 401, 2, 402, 69, 70, 20, 131, 132, 133, 134, 75, 76, 16, 112, 368, 369, 370, 371, 110, 111, 356, 403, 404, 405, 19, 406, 38, 407, 408, 409, 410, 311, 312, 313, 314, 42, 304, 305, 40, 84, 285, 286, 287, 288, 289, 290, 291, 292, 293, 294, 189, 190, 191, 295, 296, 297, 298, 299, 282, 283, 284, 300, 301, 302, 303, 306, 307, 308, 309, 310, 681, 682, 683, 700, 701, 702, 703, 704, 705, 706, 707, 708, 709, 710, 711, 712, 713, 714] (by decide +kernel) (by decide +kernel)) (goodIn_sub (fun _ h => List.mem_append_left _ (List.mem_append_left _ (List.mem_append_right _ h))) (by decide +kernel))) (goodIn_sub (fun _ h => List.mem_append_left _ (List.mem_append_right _ h)) (by decide +kernel))) (goodIn_sub (fun _ h => List.mem_append_right _ h) (by decide +kernel))
set_option maxRecDepth 20000 in
theorem gL_law_L_move : GoodIn wsL_law (va_wsS RL 149 yL_move wsL_move) := goodIn_app (goodIn_of _ (by decide +kernel)) ggL_law_L_move
set_option maxRecDepth 20000 in
theorem ggL_law_X3_move : GoodIn wsL_law wsX3_move := goodIn_r _ [414, 90, 89, 54, 148, 149, 150, 5, 151, 122, 91, 92, 93, 415, 416, 417, 418, 419, 420, 421, 422, 147, 51, 50, 57, 240, 241, 242, 243, 52, 53, 336, 337, 338, 339, 340, 341, 342, 343, 49, 48, 58, 47, 684, 685, 686, 687, 688, 689, 690, 691, 692, 693, 694, 695, 696, 697, 698, 699] (by decide +kernel) (by decide +kernel)
set_option maxRecDepth 20000 in
theorem gL_law_X3_move : GoodIn wsL_law (wsV RL 151 RX3 yX3_move wsX3_move) := goodIn_app (goodIn_of _ (by decide +kernel)) ggL_law_X3_move
set_option maxRecDepth 20000 in
theorem ggL_law_L_freedom : GoodIn wsL_law wsL_freedom := goodIn_ca (goodIn_ca (goodIn_r _ [425, 63, 105, 426, 427, 428, 2, 429, 20, 131, 132, 133, 134, 75, 76, 16, 112, 368, 369, 370, 371, 110, 111, 356, 430, 431, 432, 19, 433, 38, 282, 283, 190, 284, 407, 408, 409, 410, 311, 312, 313, 314, 42, 304, 305, 40, 84, 295, 296, 297, 298, 299, 289, 291, 290, 292, 293, 285, 286, 287, 288, 294, 189, 191, 300, 301, 302, 303, 306, 307, 308, 309, 310, 681, 682, 683, 700, 701, 702, 703, 704, 705, 706, 707, 708, 709, 710, 711, 712, 713, 714] (by decide +kernel) (by decide +kernel)) (goodIn_sub (fun _ h => List.mem_append_left _ (List.mem_append_right _ h)) (by decide +kernel))) (goodIn_sub (fun _ h => List.mem_append_right _ h) (by decide +kernel))
set_option maxRecDepth 20000 in
theorem gL_law_L_freedom : GoodIn wsL_law (va_wsS RL 152 yL_freedom wsL_freedom) := goodIn_app (goodIn_of _ (by decide +kernel)) ggL_law_L_freedom
set_option maxRecDepth 20000 in
theorem ggL_law_X3_freedom : GoodIn wsL_law wsX3_freedom := goodIn_r _ [437, 392, 393, 394, 5, 395, 90, 89, 148, 149, 150, 151, 122, 91, 92, 93, 415, 416, 417, 418, 54, 419, 420, 421, 422, 147, 51, 50, 57, 240, 241, 242, 243, 52, 53, 336, 337, 338, 339, 340, 341, 342, 343, 49, 48, 58, 47, 684, 685, 686, 687, 688, 689, 690, 691, 692, 693, 694, 695, 696, 697, 698, 699] (by decide +kernel) (by decide +kernel)
set_option maxRecDepth 20000 in
theorem gL_law_X3_freedom : GoodIn wsL_law (wsV RL 154 RX3 yX3_freedom wsX3_freedom) := goodIn_app (goodIn_of _ (by decide +kernel)) ggL_law_X3_freedom
set_option maxRecDepth 20000 in
theorem ggL_law_L_stages : GoodIn wsL_law wsL_stages := goodIn_ca (goodIn_r _ [440, 105, 441, 442, 443, 2, 444, 20, 368, 369, 370, 371, 110, 111, 356, 445, 446, 447, 19, 448, 42, 270, 84, 449, 450, 451, 452, 38, 294, 189, 190, 191, 681, 682, 683, 710, 711, 712, 713, 714, 700, 701, 702, 703, 704, 705, 706, 707, 708, 709] (by decide +kernel) (by decide +kernel)) (goodIn_sub (fun _ h => List.mem_append_right _ h) (by decide +kernel))
set_option maxRecDepth 20000 in
theorem gL_law_L_stages : GoodIn wsL_law (va_wsS RL 155 yL_stages wsL_stages) := goodIn_app (goodIn_of _ (by decide +kernel)) ggL_law_L_stages
set_option maxRecDepth 20000 in
theorem ggL_law_X3_stages : GoodIn wsL_law wsX3_stages := goodIn_r _ [456, 376, 377, 378, 5, 379, 90, 89, 457, 458, 459, 460, 122, 461, 462, 463, 464, 54, 321, 189, 190, 191, 684, 685, 686, 687, 688, 689, 690, 691, 692, 693, 694, 695, 696, 697, 698, 699] (by decide +kernel) (by decide +kernel)
set_option maxRecDepth 20000 in
theorem gL_law_X3_stages : GoodIn wsL_law (wsV RL 157 RX3 yX3_stages wsX3_stages) := goodIn_app (goodIn_of _ (by decide +kernel)) ggL_law_X3_stages
set_option maxRecDepth 20000 in
theorem ggL_law_L_taken : GoodIn wsL_law wsL_taken := goodIn_ca (goodIn_ca (goodIn_ca (goodIn_r _ [467, 63, 105, 64, 468, 469, 470, 2, 471, 20, 472, 72, 73, 74, 75, 76, 77, 78, 79, 368, 369, 370, 371, 110, 111, 356, 473, 474, 475, 476, 69, 70, 681, 682, 683, 710, 711, 712, 713, 714] (by decide +kernel) (by decide +kernel)) (goodIn_sub (fun _ h => List.mem_append_left _ (List.mem_append_right _ h)) (by decide +kernel))) (goodIn_sub (fun _ h => List.mem_append_right _ h) (by decide +kernel))) (goodIn_sub (fun _ h => List.mem_append_left _ (List.mem_append_left _ (List.mem_append_right _ h))) (by decide +kernel))
set_option maxRecDepth 20000 in
theorem gL_law_L_taken : GoodIn wsL_law (va_wsS RL 158 yL_taken wsL_taken) := goodIn_app (goodIn_of _ (by decide +kernel)) ggL_law_L_taken
set_option maxRecDepth 20000 in
theorem ggL_law_X3_taken : GoodIn wsL_law wsX3_taken := goodIn_r _ [480, 90, 89, 122, 57, 91, 92, 5, 93, 481, 482, 483, 484, 49, 48, 54, 684, 685, 686, 687, 688, 689, 690, 691, 692, 693, 694, 695, 696, 697, 698, 699] (by decide +kernel) (by decide +kernel)
set_option maxRecDepth 20000 in
theorem gL_law_X3_taken : GoodIn wsL_law (wsV RL 160 RX3 yX3_taken wsX3_taken) := goodIn_app (goodIn_of _ (by decide +kernel)) ggL_law_X3_taken
set_option maxRecDepth 20000 in
theorem ggL_law_L_lifetime : GoodIn wsL_law wsL_lifetime := goodIn_ca (goodIn_ca (goodIn_r _ [487, 63, 105, 488, 489, 490, 2, 491, 20, 492, 131, 132, 133, 134, 75, 76, 16, 112, 368, 369, 370, 371, 110, 111, 356, 493, 494, 495, 19, 496, 41, 42, 289, 290, 38, 291, 84, 293, 294, 189, 190, 191, 272, 217, 218, 219, 681, 682, 683, 710, 711, 712, 713, 714, 700, 701, 702, 703, 704, 705, 706, 707, 708, 709] (by decide +kernel) (by decide +kernel)) (goodIn_sub (fun _ h => List.mem_append_left _ (List.mem_append_right _ h)) (by decide +kernel))) (goodIn_sub (fun _ h => List.mem_append_right _ h) (by decide +kernel))
set_option maxRecDepth 20000 in
theorem gL_law_L_lifetime : GoodIn wsL_law (va_wsS RL 161 yL_lifetime wsL_lifetime) := goodIn_app (goodIn_of _ (by decide +kernel)) ggL_law_L_lifetime
set_option maxRecDepth 20000 in
theorem ggL_law_X3_lifetime : GoodIn wsL_law wsX3_lifetime := goodIn_r _ [500, 392, 393, 394, 5, 395, 90, 89, 148, 149, 150, 151, 122, 91, 92, 93, 501, 502, 503, 504, 54, 147, 50, 51, 53, 321, 189, 190, 191, 684, 685, 686, 687, 688, 689, 690, 691, 692, 693, 694, 695, 696, 697, 698, 699] (by decide +kernel) (by decide +kernel)
set_option maxRecDepth 20000 in
theorem gL_law_X3_lifetime : GoodIn wsL_law (wsV RL 163 RX3 yX3_lifetime wsX3_lifetime) := goodIn_app (goodIn_of _ (by decide +kernel)) ggL_law_X3_lifetime
set_option maxRecDepth 20000 in
theorem ggL_law_L_live : GoodIn wsL_law wsL_live := goodIn_ca (goodIn_ca (goodIn_r _ [507, 105, 64, 508, 509, 510, 2, 511, 20, 368, 369, 370, 371, 110, 111, 356, 473, 474, 475, 476, 69, 70, 493, 494, 495, 19, 496, 41, 42, 289, 290, 38, 291, 84, 293, 294, 189, 190, 191, 272, 217, 218, 219, 512, 513, 514, 515, 270, 516, 517, 518, 519, 681, 682, 683, 710, 711, 712, 713, 714, 700, 701, 702, 703, 704, 705, 706, 707, 708, 709] (by decide +kernel) (by decide +kernel)) (goodIn_sub (fun _ h => List.mem_append_right _ h) (by decide +kernel))) (goodIn_sub (fun _ h => List.mem_append_left _ (List.mem_append_left _ (List.mem_append_right _ h))) (by decide +kernel))
set_option maxRecDepth 20000 in
theorem gL_law_L_live : GoodIn wsL_law (va_wsS RL 164 yL_live wsL_live) := goodIn_app (goodIn_of _ (by decide +kernel)) ggL_law_L_live
set_option maxRecDepth 20000 in
theorem ggL_law_X3_live : GoodIn wsL_law wsX3_live := goodIn_r _ [523, 90, 89, 91, 92, 5, 93, 524, 525, 526, 527, 122, 54, 501, 502, 503, 504, 147, 50, 51, 53, 321, 189, 190, 191, 684, 685, 686, 687, 688, 689, 690, 691, 692, 693, 694, 695, 696, 697, 698, 699] (by decide +kernel) (by decide +kernel)
set_option maxRecDepth 20000 in
theorem gL_law_X3_live : GoodIn wsL_law (wsV RL 166 RX3 yX3_live wsX3_live) := goodIn_app (goodIn_of _ (by decide +kernel)) ggL_law_X3_live
set_option maxRecDepth 20000 in
theorem ggL_law_L_registers : GoodIn wsL_law wsL_registers := goodIn_ca (goodIn_r _ [530, 105, 531, 532, 533, 2, 534, 20, 356, 265, 189, 190, 191, 368, 369, 370, 371, 110, 111, 493, 494, 495, 19, 496, 41, 42, 289, 290, 38, 291, 84, 293, 294, 272, 217, 218, 219, 512, 513, 514, 515, 270, 516, 517, 518, 519, 681, 682, 683, 710, 711, 712, 713, 714, 700, 701, 702, 703, 704, 705, 706, 707, 708, 709] (by decide +kernel) (by decide +kernel)) (goodIn_sub (fun _ h => List.mem_append_right _ h) (by decide +kernel))
set_option maxRecDepth 20000 in
theorem gL_law_L_registers : GoodIn wsL_law (va_wsS RL 167 yL_registers wsL_registers) := goodIn_app (goodIn_of _ (by decide +kernel)) ggL_law_L_registers
set_option maxRecDepth 20000 in
theorem ggL_law_X3_registers : GoodIn wsL_law wsX3_registers := goodIn_r _ [538, 90, 321, 189, 190, 191, 524, 525, 526, 5, 527, 122, 54, 501, 502, 503, 504, 147, 50, 51, 53, 376, 377, 378, 379, 89, 684, 685, 686, 687, 688, 689, 690, 691, 692, 693, 694, 695, 696, 697, 698, 699] (by decide +kernel) (by decide +kernel)
set_option maxRecDepth 20000 in
theorem gL_law_X3_registers : GoodIn wsL_law (wsV RL 169 RX3 yX3_registers wsX3_registers) := goodIn_app (goodIn_of _ (by decide +kernel)) ggL_law_X3_registers
set_option maxRecDepth 20000 in
theorem ggL_law_L_copies : GoodIn wsL_law wsL_copies := goodIn_ca (goodIn_ca (goodIn_r _ [541, 63, 105, 542, 543, 544, 2, 545, 20, 131, 132, 133, 134, 75, 76, 16, 112, 368, 369, 370, 371, 110, 111, 356, 493, 494, 495, 19, 496, 41, 42, 289, 290, 38, 291, 84, 293, 294, 189, 190, 191, 272, 217, 218, 219, 546, 547, 548, 549, 681, 682, 683, 700, 701, 702, 703, 704, 705, 706, 707, 708, 709, 710, 711, 712, 713, 714] (by decide +kernel) (by decide +kernel)) (goodIn_sub (fun _ h => List.mem_append_left _ (List.mem_append_right _ h)) (by decide +kernel))) (goodIn_sub (fun _ h => List.mem_append_right _ h) (by decide +kernel))
set_option maxRecDepth 20000 in
theorem gL_law_L_copies : GoodIn wsL_law (va_wsS RL 170 yL_copies wsL_copies) := goodIn_app (goodIn_of _ (by decide +kernel)) ggL_law_L_copies
set_option maxRecDepth 20000 in
theorem ggL_law_X3_copies : GoodIn wsL_law wsX3_copies := goodIn_r _ [553, 392, 393, 394, 5, 395, 90, 89, 148, 149, 150, 151, 122, 91, 92, 93, 554, 555, 556, 557, 501, 502, 503, 504, 54, 147, 50, 51, 53, 321, 189, 190, 191, 684, 685, 686, 687, 688, 689, 690, 691, 692, 693, 694, 695, 696, 697, 698, 699] (by decide +kernel) (by decide +kernel)
set_option maxRecDepth 20000 in
theorem gL_law_X3_copies : GoodIn wsL_law (wsV RL 172 RX3 yX3_copies wsX3_copies) := goodIn_app (goodIn_of _ (by decide +kernel)) ggL_law_X3_copies
set_option maxRecDepth 20000 in
theorem ggL_law_L_unrolling : GoodIn wsL_law wsL_unrolling := goodIn_ca (goodIn_r _ [560, 105, 561, 562, 563, 2, 564, 20, 16, 112, 565, 566, 368, 369, 370, 371, 110, 111, 356, 493, 494, 495, 19, 496, 41, 42, 289, 290, 38, 291, 84, 293, 294, 189, 190, 191, 272, 217, 218, 219, 546, 547, 548, 549, 567, 568, 569, 681, 682, 683, 700, 701, 702, 703, 704, 705, 706, 707, 708, 709, 710, 711, 712, 713, 714] (by decide +kernel) (by decide +kernel)) (goodIn_sub (fun _ h => List.mem_append_right _ h) (by decide +kernel))
set_option maxRecDepth 20000 in
theorem gL_law_L_unrolling : GoodIn wsL_law (va_wsS RL 173 yL_unrolling wsL_unrolling) := goodIn_app (goodIn_of _ (by decide +kernel)) ggL_law_L_unrolling
set_option maxRecDepth 20000 in
theorem ggL_law_X3_unrolling : GoodIn wsL_law wsX3_unrolling := goodIn_r _ [573, 122, 574, 334, 376, 377, 378, 5, 379, 90, 89, 554, 555, 556, 557, 501, 502, 503, 504, 54, 147, 50, 51, 53, 321, 189, 190, 191, 684, 685, 686, 687, 688, 689, 690, 691, 692, 693, 694, 695, 696, 697, 698, 699] (by decide +kernel) (by decide +kernel)
set_option maxRecDepth 20000 in
theorem gL_law_X3_unrolling : GoodIn wsL_law (wsV RL 175 RX3 yX3_unrolling wsX3_unrolling) := goodIn_app (goodIn_of _ (by decide +kernel)) ggL_law_X3_unrolling
set_option maxRecDepth 20000 in
theorem ggL_law_L_cycles : GoodIn wsL_law wsL_cycles := goodIn_ca (goodIn_ca (goodIn_r _ [577, 105, 64, 578, 579, 580, 2, 581, 16, 112, 20, 356, 368, 369, 370, 371, 110, 111, 582, 583, 584, 69, 70, 585, 450, 451, 19, 452, 42, 270, 38, 294, 189, 190, 191, 681, 682, 683, 700, 701, 702, 703, 704, 705, 706, 707, 708, 709, 710, 711, 712, 713, 714] (by decide +kernel) (by decide +kernel)) (goodIn_sub (fun _ h => List.mem_append_right _ h) (by decide +kernel))) (goodIn_sub (fun _ h => List.mem_append_left _ (List.mem_append_left _ (List.mem_append_right _ h))) (by decide +kernel))
set_option maxRecDepth 20000 in
theorem gL_law_L_cycles : GoodIn wsL_law (va_wsS RL 176 yL_cycles wsL_cycles) := goodIn_app (goodIn_of _ (by decide +kernel)) ggL_law_L_cycles
set_option maxRecDepth 20000 in
theorem ggL_law_X3_cycles : GoodIn wsL_law wsX3_cycles := goodIn_r _ [589, 90, 89, 122, 91, 92, 5, 93, 461, 462, 463, 464, 54, 321, 189, 190, 191, 684, 685, 686, 687, 688, 689, 690, 691, 692, 693, 694, 695, 696, 697, 698, 699] (by decide +kernel) (by decide +kernel)
set_option maxRecDepth 20000 in
theorem gL_law_X3_cycles : GoodIn wsL_law (wsV RL 178 RX3 yX3_cycles wsX3_cycles) := goodIn_app (goodIn_of _ (by decide +kernel)) ggL_law_X3_cycles
set_option maxRecDepth 20000 in
theorem ggL_law_L_issued : GoodIn wsL_law wsL_issued := goodIn_ca (goodIn_ca (goodIn_r _ [592, 105, 64, 593, 594, 595, 2, 596, 16, 112, 368, 369, 370, 371, 110, 111, 20, 356, 582, 583, 584, 69, 70, 597, 598, 599, 600, 601, 602, 603, 387, 681, 682, 683, 700, 701, 702, 703, 704, 705, 706, 707, 708, 709, 710, 711, 712, 713, 714] (by decide +kernel) (by decide +kernel)) (goodIn_sub (fun _ h => List.mem_append_right _ h) (by decide +kernel))) (goodIn_sub (fun _ h => List.mem_append_left _ (List.mem_append_left _ (List.mem_append_right _ h))) (by decide +kernel))
set_option maxRecDepth 20000 in
theorem gL_law_L_issued : GoodIn wsL_law (va_wsS RL 179 yL_issued wsL_issued) := goodIn_app (goodIn_of _ (by decide +kernel)) ggL_law_L_issued
set_option maxRecDepth 20000 in
theorem ggL_law_X3_issued : GoodIn wsL_law wsX3_issued := goodIn_r _ [607, 90, 89, 91, 92, 5, 93, 608, 609, 610, 611, 122, 54, 684, 685, 686, 687, 688, 689, 690, 691, 692, 693, 694, 695, 696, 697, 698, 699] (by decide +kernel) (by decide +kernel)
set_option maxRecDepth 20000 in
theorem gL_law_X3_issued : GoodIn wsL_law (wsV RL 181 RX3 yX3_issued wsX3_issued) := goodIn_app (goodIn_of _ (by decide +kernel)) ggL_law_X3_issued
set_option maxRecDepth 20000 in
theorem ggL_law_L_issue : GoodIn wsL_law wsL_issue := goodIn_ca (goodIn_ca (goodIn_ca (goodIn_r _ [614, 105, 64, 63, 615, 616, 617, 2, 618, 75, 76, 16, 112, 368, 369, 370, 371, 110, 111, 20, 356, 582, 583, 584, 69, 70, 597, 598, 599, 600, 601, 602, 603, 387, 619, 620, 621, 622, 623, 624, 625, 626, 681, 682, 683, 700, 701, 702, 703, 704, 705, 706, 707, 708, 709, 710, 711, 712, 713, 714] (by decide +kernel) (by decide +kernel)) (goodIn_sub (fun _ h => List.mem_append_left _ (List.mem_append_right _ h)) (by decide +kernel))) (goodIn_sub (fun _ h => List.mem_append_right _ h) (by decide +kernel))) (goodIn_sub (fun _ h => List.mem_append_left _ (List.mem_append_left _ (List.mem_append_right _ h))) (by decide +kernel))
set_option maxRecDepth 20000 in
theorem gL_law_L_issue : GoodIn wsL_law (va_wsS RL 182 yL_issue wsL_issue) := goodIn_app (goodIn_of _ (by decide +kernel)) ggL_law_L_issue
set_option maxRecDepth 20000 in
theorem ggL_law_X3_issue : GoodIn wsL_law wsX3_issue := goodIn_r _ [630, 90, 89, 91, 92, 5, 93, 608, 609, 610, 611, 122, 54, 631, 632, 633, 634, 684, 685, 686, 687, 688, 689, 690, 691, 692, 693, 694, 695, 696, 697, 698, 699] (by decide +kernel) (by decide +kernel)
set_option maxRecDepth 20000 in
theorem gL_law_X3_issue : GoodIn wsL_law (wsV RL 185 RX3 yX3_issue wsX3_issue) := goodIn_app (goodIn_of _ (by decide +kernel)) ggL_law_X3_issue
set_option maxRecDepth 20000 in
theorem ggL_law_L_prologue : GoodIn wsL_law wsL_prologue := goodIn_ca (goodIn_r _ [637, 105, 638, 639, 640, 2, 641, 20, 16, 112, 368, 369, 370, 371, 110, 111, 356, 445, 446, 447, 19, 448, 42, 270, 84, 449, 450, 451, 452, 38, 294, 189, 190, 191, 642, 643, 644, 645, 681, 682, 683, 700, 701, 702, 703, 704, 705, 706, 707, 708, 709, 710, 711, 712, 713, 714] (by decide +kernel) (by decide +kernel)) (goodIn_sub (fun _ h => List.mem_append_right _ h) (by decide +kernel))
set_option maxRecDepth 20000 in
theorem gL_law_L_prologue : GoodIn wsL_law (va_wsS RL 186 yL_prologue wsL_prologue) := goodIn_app (goodIn_of _ (by decide +kernel)) ggL_law_L_prologue
set_option maxRecDepth 20000 in
theorem ggL_law_X3_prologue : GoodIn wsL_law wsX3_prologue := goodIn_r _ [649, 90, 376, 377, 378, 5, 379, 89, 457, 458, 459, 460, 122, 461, 462, 463, 464, 54, 321, 189, 190, 191, 608, 609, 610, 611, 684, 685, 686, 687, 688, 689, 690, 691, 692, 693, 694, 695, 696, 697, 698, 699] (by decide +kernel) (by decide +kernel)
set_option maxRecDepth 20000 in
theorem gL_law_X3_prologue : GoodIn wsL_law (wsV RL 188 RX3 yX3_prologue wsX3_prologue) := goodIn_app (goodIn_of _ (by decide +kernel)) ggL_law_X3_prologue
set_option maxRecDepth 20000 in
theorem ggL_law_L_epilogue : GoodIn wsL_law wsL_epilogue := goodIn_ca (goodIn_r _ [652, 105, 653, 654, 655, 2, 656, 16, 112, 20, 368, 369, 370, 371, 110, 111, 356, 642, 643, 644, 19, 645, 38, 84, 681, 682, 683, 700, 701, 702, 703, 704, 705, 706, 707, 708, 709, 710, 711, 712, 713, 714] (by decide +kernel) (by decide +kernel)) (goodIn_sub (fun _ h => List.mem_append_right _ h) (by decide +kernel))
set_option maxRecDepth 20000 in
theorem gL_law_L_epilogue : GoodIn wsL_law (va_wsS RL 189 yL_epilogue wsL_epilogue) := goodIn_app (goodIn_of _ (by decide +kernel)) ggL_law_L_epilogue
set_option maxRecDepth 20000 in
theorem ggL_law_X3_epilogue : GoodIn wsL_law wsX3_epilogue := goodIn_r _ [660, 90, 321, 189, 190, 191, 376, 377, 378, 5, 379, 89, 461, 462, 463, 464, 122, 54, 457, 458, 459, 460, 608, 609, 610, 611, 684, 685, 686, 687, 688, 689, 690, 691, 692, 693, 694, 695, 696, 697, 698, 699] (by decide +kernel) (by decide +kernel)
set_option maxRecDepth 20000 in
theorem gL_law_X3_epilogue : GoodIn wsL_law (wsV RL 191 RX3 yX3_epilogue wsX3_epilogue) := goodIn_app (goodIn_of _ (by decide +kernel)) ggL_law_X3_epilogue
set_option maxRecDepth 20000 in
theorem ggL_law_X2_digest : GoodIn wsL_law wsX2_digest := goodIn_r _ [664, 665, 16, 71, 112, 666, 667, 130, 668, 669, 159, 670, 20, 356, 387, 671, 672, 2, 673, 674, 681, 682, 683, 700, 701, 702, 703, 704, 705, 706, 707, 708, 709, 710, 711, 712, 713, 714] (by decide +kernel) (by decide +kernel)
set_option maxRecDepth 20000 in
theorem gL_law_X2_digest : GoodIn wsL_law (wsV RL 192 RX2 yX2_digest wsX2_digest) := goodIn_app (goodIn_of _ (by decide +kernel)) ggL_law_X2_digest
set_option maxRecDepth 20000 in
theorem ggL_law_X3_digest : GoodIn wsL_law wsX3_digest := goodIn_r _ [678, 89, 679, 680, 47, 122, 48, 49, 147, 50, 51, 52, 53, 90, 54, 684, 685, 686, 687, 688, 689, 690, 691, 692, 693, 694, 695, 696, 697, 698, 699] (by decide +kernel) (by decide +kernel)
set_option maxRecDepth 20000 in
theorem gL_law_X3_digest : GoodIn wsL_law (wsV RL 196 RX3 yX3_digest wsX3_digest) := goodIn_app (goodIn_of _ (by decide +kernel)) ggL_law_X3_digest