set_option maxRecDepth 20000 in
theorem ggL_law_X2_init : GoodIn wsL_law wsX2_init := goodIn_r _ [9, 10, 11, 12, 13, 14, 15, 16, 17, 18, 19, 20, 21, 22, 23, 24, 25, 26, 27, 28, 29, 30, 31, 32, 33, 34, 35, 36, 37, 38, 39, 40, 41, 42, 43, 44, 45, 46, 47, 48, 49, 50, 51, 52, 53, 54, 55, 56, 57, 58, 59, 60, 409, 410, 411, 412, 413, 414, 415, 416, 417, 418, 419, 420, 445, 446, 447, 448, 449, 450, 451, 452, 453, 454, 455, 456, 457, 458, 459, 460, 461, 462, 463, 464, 465, 466, 467] (by decide +kernel) (by decide +kernel)
set_option maxRecDepth 20000 in
theorem gL_law_X2_init : GoodIn wsL_law (wsX2_init) := ggL_law_X2_init
set_option maxRecDepth 20000 in
theorem ggL_law_X3_init : GoodIn wsL_law wsX3_init := goodIn_r _ [63, 64, 11, 12, 17, 65, 66, 67, 68, 69, 70, 71, 72, 73, 74, 75, 76, 77, 78, 79, 80, 81, 82, 83, 84, 85, 86, 5, 87, 88, 89, 90, 91, 92, 93, 94, 95, 421, 422, 423, 424, 425, 426, 427, 428, 429, 430, 431, 432, 433, 434, 435, 436, 437, 438, 439, 440, 441, 442, 443, 444] (by decide +kernel) (by decide +kernel)
set_option maxRecDepth 20000 in
theorem gL_law_X3_init : GoodIn wsL_law (wsX3_init) := ggL_law_X3_init
set_option maxRecDepth 20000 in
theorem ggL_law_L_levels : GoodIn wsL_law wsL_levels := goodIn_ca (goodIn_r _ [99, 100, 101, 102, 103, 2, 104, 105, 106, 19, 14, 20, 107, 108, 109, 110, 22, 23, 24, 25, 26, 27, 16, 111, 29, 112, 113, 38, 114, 31, 115, 116, 45, 46, 47, 48, 49, 50, 51, 52, 53, 54, 55, 56, 57, 58, 59, 409, 410, 411, 412, 413, 414, 415, 416, 417, 418, 419, 420, 445, 446, 447, 448, 449, 450, 451, 452, 453, 454, 455, 456, 457, 458, 459, 460, 461, 462, 463, 464, 465, 466, 467] (by decide +kernel) (by decide +kernel)) (goodIn_sub (fun _ h => List.mem_append_left _ (List.mem_append_left _ (List.mem_append_right _ h))) (by decide +kernel))
set_option maxRecDepth 20000 in
theorem gL_law_L_levels : GoodIn wsL_law (va_wsS RL 53 yL_levels wsL_levels) := goodIn_app (goodIn_of _ (by decide +kernel)) ggL_law_L_levels
set_option maxRecDepth 20000 in
theorem ggL_law_X3_levels : GoodIn wsL_law wsX3_levels := goodIn_r _ [120, 121, 84, 85, 86, 5, 87, 88, 65, 66, 89, 90, 91, 92, 93, 94, 95, 82, 81, 70, 71, 72, 77, 79, 421, 422, 423, 424, 425, 426, 427, 428, 429, 430, 431, 432, 433, 434, 435, 436, 437, 438, 439, 440, 441, 442, 443, 444] (by decide +kernel) (by decide +kernel)
set_option maxRecDepth 20000 in
theorem gL_law_X3_levels : GoodIn wsL_law (wsV RL 58 RX3 yX3_levels wsX3_levels) := goodIn_app (goodIn_of _ (by decide +kernel)) ggL_law_X3_levels
set_option maxRecDepth 20000 in
theorem ggL_law_X3_thrown : GoodIn wsL_law wsX3_thrown := goodIn_r _ [125, 121, 421, 422, 423, 424, 425, 426, 427, 428, 429, 430, 431, 432, 433, 434, 435, 436, 437, 438, 439, 440, 441, 442, 443, 444] (by decide +kernel) (by decide +kernel)
set_option maxRecDepth 20000 in
theorem gL_law_X3_thrown : GoodIn wsL_law (wsV RL 59 RX3 yX3_thrown wsX3_thrown) := goodIn_app (goodIn_of _ (by decide +kernel)) ggL_law_X3_thrown
set_option maxRecDepth 20000 in
theorem ggL_law_L_level : GoodIn wsL_law wsL_level := goodIn_ca (goodIn_ca (goodIn_ca (goodIn_r _ [128, 129, 100, 130, 131, 132, 133, 2, 134, 135, 136, 105, 106, 137, 138, 22, 14, 139, 140, 141, 142, 19, 409, 410, 411, 412, 413, 414, 415, 416, 417, 418, 419, 420, 445, 446, 447, 448] (by decide +kernel) (by decide +kernel)) (goodIn_sub (fun _ h => List.mem_append_left _ (List.mem_append_right _ h)) (by decide +kernel))) (goodIn_sub (fun _ h => List.mem_append_left _ (List.mem_append_left _ (List.mem_append_right _ h))) (by decide +kernel))) (goodIn_sub (fun _ h => List.mem_append_right _ h) (by decide +kernel))
set_option maxRecDepth 20000 in
theorem gL_law_L_level : GoodIn wsL_law (va_wsS RL 63 yL_level wsL_level) := goodIn_app (goodIn_of _ (by decide +kernel)) ggL_law_L_level
set_option maxRecDepth 20000 in
theorem ggL_law_X3_level : GoodIn wsL_law wsX3_level := goodIn_r _ [146, 88, 94, 121, 65, 66, 421, 422, 423, 424, 425, 426, 427, 428, 429, 430, 431, 432, 433, 434, 435, 436, 437, 438, 439, 440, 441, 442, 443, 444] (by decide +kernel) (by decide +kernel)
set_option maxRecDepth 20000 in
theorem gL_law_X3_level : GoodIn wsL_law (wsV RL 66 RX3 yX3_level wsX3_level) := goodIn_app (goodIn_of _ (by decide +kernel)) ggL_law_X3_level
set_option maxRecDepth 20000 in
theorem ggL_law_L_period : GoodIn wsL_law wsL_period := goodIn_ca (goodIn_ca (goodIn_r _ [149, 100, 130, 150, 151, 152, 2, 153, 105, 106, 137, 138, 22, 21, 409, 410, 411, 412, 413, 414, 415, 416, 417, 418, 419, 420] (by decide +kernel) (by decide +kernel)) (goodIn_sub (fun _ h => List.mem_append_left _ (List.mem_append_left _ (List.mem_append_right _ h))) (by decide +kernel))) (goodIn_sub (fun _ h => List.mem_append_right _ h) (by decide +kernel))
set_option maxRecDepth 20000 in
theorem gL_law_L_period : GoodIn wsL_law (va_wsS RL 67 yL_period wsL_period) := goodIn_app (goodIn_of _ (by decide +kernel)) ggL_law_L_period
set_option maxRecDepth 20000 in
theorem ggL_law_X3_period : GoodIn wsL_law wsX3_period := goodIn_r _ [157, 94, 121, 158, 421, 422, 423, 424, 425, 426, 427, 428, 429, 430, 431, 432, 433, 434, 435, 436, 437, 438, 439, 440, 441, 442, 443, 444] (by decide +kernel) (by decide +kernel)
set_option maxRecDepth 20000 in
theorem gL_law_X3_period : GoodIn wsL_law (wsV RL 69 RX3 yX3_period wsX3_period) := goodIn_app (goodIn_of _ (by decide +kernel)) ggL_law_X3_period
set_option maxRecDepth 20000 in
theorem ggL_law_L_process : GoodIn wsL_law wsL_process := goodIn_ca (goodIn_ca (goodIn_r _ [161, 100, 130, 162, 163, 164, 2, 165, 105, 106, 137, 138, 22, 20, 16, 166, 31, 167, 168, 42, 44, 409, 410, 411, 412, 413, 414, 415, 416, 417, 418, 419, 420, 449, 450, 451, 452, 453, 454, 455, 456, 457, 458, 459, 460, 461, 462, 463, 464, 465, 466, 467] (by decide +kernel) (by decide +kernel)) (goodIn_sub (fun _ h => List.mem_append_left _ (List.mem_append_left _ (List.mem_append_right _ h))) (by decide +kernel))) (goodIn_sub (fun _ h => List.mem_append_right _ h) (by decide +kernel))
set_option maxRecDepth 20000 in
theorem gL_law_L_process : GoodIn wsL_law (va_wsS RL 70 yL_process wsL_process) := goodIn_app (goodIn_of _ (by decide +kernel)) ggL_law_L_process
set_option maxRecDepth 20000 in
theorem ggL_law_X3_process : GoodIn wsL_law wsX3_process := goodIn_r _ [172, 94, 121, 89, 67, 68, 421, 422, 423, 424, 425, 426, 427, 428, 429, 430, 431, 432, 433, 434, 435, 436, 437, 438, 439, 440, 441, 442, 443, 444] (by decide +kernel) (by decide +kernel)
set_option maxRecDepth 20000 in
theorem gL_law_X3_process : GoodIn wsL_law (wsV RL 73 RX3 yX3_process wsX3_process) := goodIn_app (goodIn_of _ (by decide +kernel)) ggL_law_X3_process
set_option maxRecDepth 20000 in
theorem ggL_law_L_burst : GoodIn wsL_law wsL_burst := goodIn_ca (goodIn_ca (goodIn_ca (goodIn_r _ [175, 129, 100, 130, 176, 177, 178, 2, 179, 135, 136, 105, 106, 137, 138, 22, 16, 180, 181, 182, 183, 20, 184, 31, 185, 186, 44, 43, 409, 410, 411, 412, 413, 414, 415, 416, 417, 418, 419, 420, 449, 450, 451, 452, 453, 454, 455, 456, 457, 458, 459, 460, 461, 462, 463, 464, 465, 466, 467] (by decide +kernel) (by decide +kernel)) (goodIn_sub (fun _ h => List.mem_append_left _ (List.mem_append_right _ h)) (by decide +kernel))) (goodIn_sub (fun _ h => List.mem_append_left _ (List.mem_append_left _ (List.mem_append_right _ h))) (by decide +kernel))) (goodIn_sub (fun _ h => List.mem_append_right _ h) (by decide +kernel))
set_option maxRecDepth 20000 in
theorem gL_law_L_burst : GoodIn wsL_law (va_wsS RL 74 yL_burst wsL_burst) := goodIn_app (goodIn_of _ (by decide +kernel)) ggL_law_L_burst
set_option maxRecDepth 20000 in
theorem ggL_law_X3_burst : GoodIn wsL_law wsX3_burst := goodIn_r _ [190, 94, 121, 68, 69, 191, 192, 193, 5, 194, 89, 421, 422, 423, 424, 425, 426, 427, 428, 429, 430, 431, 432, 433, 434, 435, 436, 437, 438, 439, 440, 441, 442, 443, 444] (by decide +kernel) (by decide +kernel)
set_option maxRecDepth 20000 in
theorem gL_law_X3_burst : GoodIn wsL_law (wsV RL 77 RX3 yX3_burst wsX3_burst) := goodIn_app (goodIn_of _ (by decide +kernel)) ggL_law_X3_burst
set_option maxRecDepth 20000 in
theorem ggL_law_L_run : GoodIn wsL_law wsL_run := goodIn_ca (goodIn_r _ [197, 100, 198, 199, 200, 2, 201, 105, 106, 22, 202, 25, 203, 204, 205, 206, 21, 23, 207, 208, 209, 210, 26, 14, 20, 16, 19, 211, 31, 212, 213, 46, 50, 45, 49, 214, 215, 216, 217, 218, 29, 219, 220, 38, 37, 221, 222, 223, 224, 111, 112, 113, 225, 226, 227, 228, 229, 230, 231, 232, 233, 234, 235, 47, 44, 43, 48, 236, 237, 238, 239, 240, 241, 242, 243, 27, 244, 245, 246, 247, 248, 249, 250, 251, 252, 253, 254, 255, 256, 257, 258, 259, 260, 261, 262, 263, 264, 265, 180, 181, 182, 183, 266, 267, 268, 269, 24, 18, 270, 271, 272, 51, 57, 55, 273, 274, 275, 276, 277, 278, 279, 280, 281, 282, 283, 284, 285, 286, 287, 288, 409, 410, 411, 412, 413, 414, 415, 416, 417, 418, 419, 420, 449, 450, 451, 452, 453, 454, 455, 456, 457, 458, 459, 460, 461, 462, 463, 464, 465, 466, 467, 445, 446, 447, 448] (by decide +kernel) (by decide +kernel)) (goodIn_sub (fun _ h => List.mem_append_left _ (List.mem_append_left _ (List.mem_append_right _ h))) (by decide +kernel))
set_option maxRecDepth 20000 in
theorem gL_law_L_run : GoodIn wsL_law (va_wsS RL 78 yL_run wsL_run) := goodIn_app (goodIn_of _ (by decide +kernel)) ggL_law_L_run
set_option maxRecDepth 20000 in
theorem ggL_law_X3_run : GoodIn wsL_law wsX3_run := goodIn_r _ [292, 94, 293, 121, 158, 95, 82, 294, 295, 296, 5, 297, 88, 81, 89, 70, 71, 75, 66, 77, 74, 65, 298, 299, 300, 301, 80, 302, 303, 304, 305, 306, 307, 308, 309, 67, 68, 73, 69, 310, 311, 312, 313, 79, 314, 315, 316, 317, 78, 72, 318, 319, 320, 321, 83, 322, 323, 324, 325, 326, 327, 328, 329, 330, 331, 332, 333, 334, 335, 336, 337, 421, 422, 423, 424, 425, 426, 427, 428, 429, 430, 431, 432, 433, 434, 435, 436, 437, 438, 439, 440, 441, 442, 443, 444] (by decide +kernel) (by decide +kernel)
set_option maxRecDepth 20000 in
theorem gL_law_X3_run : GoodIn wsL_law (wsV RL 80 RX3 yX3_run wsX3_run) := goodIn_app (goodIn_of _ (by decide +kernel)) ggL_law_X3_run
set_option maxRecDepth 20000 in
theorem ggL_law_X2_restart : GoodIn wsL_law wsX2_restart := goodIn_r _ [341, 107, 108, 109, 2, 110, 22, 23, 24, 25, 26, 27, 14, 16, 111, 29, 112, 113, 38, 114, 31, 115, 116, 45, 46, 47, 48, 49, 50, 51, 52, 53, 54, 55, 56, 57, 58, 59, 409, 410, 411, 412, 413, 414, 415, 416, 417, 418, 419, 420, 445, 446, 447, 448, 449, 450, 451, 452, 453, 454, 455, 456, 457, 458, 459, 460, 461, 462, 463, 464, 465, 466, 467] (by decide +kernel) (by decide +kernel)
set_option maxRecDepth 20000 in
theorem gL_law_X2_restart : GoodIn wsL_law (wsV RL 81 RX2 yX2_restart wsX2_restart) := goodIn_app (goodIn_of _ (by decide +kernel)) ggL_law_X2_restart
set_option maxRecDepth 20000 in
theorem ggL_law_X3_restart : GoodIn wsL_law wsX3_restart := goodIn_r _ [345, 121, 90, 91, 92, 5, 93, 94, 95, 82, 81, 70, 71, 72, 77, 79, 421, 422, 423, 424, 425, 426, 427, 428, 429, 430, 431, 432, 433, 434, 435, 436, 437, 438, 439, 440, 441, 442, 443, 444] (by decide +kernel) (by decide +kernel)
set_option maxRecDepth 20000 in
theorem gL_law_X3_restart : GoodIn wsL_law (wsV RL 84 RX3 yX3_restart wsX3_restart) := goodIn_app (goodIn_of _ (by decide +kernel)) ggL_law_X3_restart
set_option maxRecDepth 20000 in
theorem ggL_law_X2_time : GoodIn wsL_law wsX2_time := goodIn_r _ [349, 22, 409, 410, 411, 412, 413, 414, 415, 416, 417, 418, 419, 420] (by decide +kernel) (by decide +kernel)
set_option maxRecDepth 20000 in
theorem gL_law_X2_time : GoodIn wsL_law (wsV RL 85 RX2 yX2_time wsX2_time) := goodIn_app (goodIn_of _ (by decide +kernel)) ggL_law_X2_time
set_option maxRecDepth 20000 in
theorem ggL_law_X3_time : GoodIn wsL_law wsX3_time := goodIn_r _ [353, 121, 94, 421, 422, 423, 424, 425, 426, 427, 428, 429, 430, 431, 432, 433, 434, 435, 436, 437, 438, 439, 440, 441, 442, 443, 444] (by decide +kernel) (by decide +kernel)
set_option maxRecDepth 20000 in
theorem gL_law_X3_time : GoodIn wsL_law (wsV RL 88 RX3 yX3_time wsX3_time) := goodIn_app (goodIn_of _ (by decide +kernel)) ggL_law_X3_time
set_option maxRecDepth 20000 in
theorem ggL_law_L_told : GoodIn wsL_law wsL_told := goodIn_ca (goodIn_ca (goodIn_r _ [356, 129, 100, 357, 358, 359, 2, 360, 135, 136, 105, 106, 16, 180, 181, 182, 183, 20, 409, 410, 411, 412, 413, 414, 415, 416, 417, 418, 419, 420, 449, 450, 451, 452, 453, 454, 455, 456, 457, 458, 459, 460, 461, 462, 463, 464, 465, 466, 467] (by decide +kernel) (by decide +kernel)) (goodIn_sub (fun _ h => List.mem_append_left _ (List.mem_append_right _ h)) (by decide +kernel))) (goodIn_sub (fun _ h => List.mem_append_left _ (List.mem_append_left _ (List.mem_append_right _ h))) (by decide +kernel))
set_option maxRecDepth 20000 in
theorem gL_law_L_told : GoodIn wsL_law (va_wsS RL 89 yL_told wsL_told) := goodIn_app (goodIn_of _ (by decide +kernel)) ggL_law_L_told
set_option maxRecDepth 20000 in
theorem ggL_law_X3_told : GoodIn wsL_law wsX3_told := goodIn_r _ [364, 121, 70, 71, 79, 191, 192, 193, 5, 194, 89, 421, 422, 423, 424, 425, 426, 427, 428, 429, 430, 431, 432, 433, 434, 435, 436, 437, 438, 439, 440, 441, 442, 443, 444] (by decide +kernel) (by decide +kernel)
set_option maxRecDepth 20000 in
theorem gL_law_X3_told : GoodIn wsL_law (wsV RL 91 RX3 yX3_told wsX3_told) := goodIn_app (goodIn_of _ (by decide +kernel)) ggL_law_X3_told
set_option maxRecDepth 20000 in
theorem ggL_law_X2_running : GoodIn wsL_law wsX2_running := goodIn_r _ [368, 23, 409, 410, 411, 412, 413, 414, 415, 416, 417, 418, 419, 420, 449, 450, 451, 452, 453, 454, 455, 456, 457, 458, 459, 460, 461, 462, 463, 464, 465, 466, 467] (by decide +kernel) (by decide +kernel)
set_option maxRecDepth 20000 in
theorem gL_law_X2_running : GoodIn wsL_law (wsV RL 92 RX2 yX2_running wsX2_running) := goodIn_app (goodIn_of _ (by decide +kernel)) ggL_law_X2_running
set_option maxRecDepth 20000 in
theorem ggL_law_X3_running : GoodIn wsL_law wsX3_running := goodIn_r _ [372, 121, 95, 421, 422, 423, 424, 425, 426, 427, 428, 429, 430, 431, 432, 433, 434, 435, 436, 437, 438, 439, 440, 441, 442, 443, 444] (by decide +kernel) (by decide +kernel)
set_option maxRecDepth 20000 in
theorem gL_law_X3_running : GoodIn wsL_law (wsV RL 95 RX3 yX3_running wsX3_running) := goodIn_app (goodIn_of _ (by decide +kernel)) ggL_law_X3_running
set_option maxRecDepth 20000 in
theorem ggL_law_L_queued : GoodIn wsL_law wsL_queued := goodIn_ca (goodIn_r _ [375, 129, 376, 377, 378, 2, 379, 135, 136, 14, 139, 140, 141, 142, 19, 380, 29, 381, 382, 38, 37, 409, 410, 411, 412, 413, 414, 415, 416, 417, 418, 419, 420, 445, 446, 447, 448] (by decide +kernel) (by decide +kernel)) (goodIn_sub (fun _ h => List.mem_append_left _ (List.mem_append_right _ h)) (by decide +kernel))
set_option maxRecDepth 20000 in
theorem gL_law_L_queued : GoodIn wsL_law (va_wsS RL 96 yL_queued wsL_queued) := goodIn_app (goodIn_of _ (by decide +kernel)) ggL_law_L_queued
set_option maxRecDepth 20000 in
theorem ggL_law_X3_queued : GoodIn wsL_law wsX3_queued := goodIn_r _ [386, 88, 121, 81, 80, 421, 422, 423, 424, 425, 426, 427, 428, 429, 430, 431, 432, 433, 434, 435, 436, 437, 438, 439, 440, 441, 442, 443, 444] (by decide +kernel) (by decide +kernel)
set_option maxRecDepth 20000 in
theorem gL_law_X3_queued : GoodIn wsL_law (wsV RL 98 RX3 yX3_queued wsX3_queued) := goodIn_app (goodIn_of _ (by decide +kernel)) ggL_law_X3_queued
set_option maxRecDepth 20000 in
theorem ggL_law_L_all : GoodIn wsL_law wsL_all := goodIn_ca (goodIn_r _ [389, 100, 390, 391, 392, 2, 393, 105, 106, 24, 25, 26, 27, 409, 410, 411, 412, 413, 414, 415, 416, 417, 418, 419, 420] (by decide +kernel) (by decide +kernel)) (goodIn_sub (fun _ h => List.mem_append_left _ (List.mem_append_left _ (List.mem_append_right _ h))) (by decide +kernel))
set_option maxRecDepth 20000 in
theorem gL_law_L_all : GoodIn wsL_law (va_wsS RL 99 yL_all wsL_all) := goodIn_app (goodIn_of _ (by decide +kernel)) ggL_law_L_all
set_option maxRecDepth 20000 in
theorem ggL_law_X3_all : GoodIn wsL_law wsX3_all := goodIn_r _ [397, 121, 82, 421, 422, 423, 424, 425, 426, 427, 428, 429, 430, 431, 432, 433, 434, 435, 436, 437, 438, 439, 440, 441, 442, 443, 444] (by decide +kernel) (by decide +kernel)
set_option maxRecDepth 20000 in
theorem gL_law_X3_all : GoodIn wsL_law (wsV RL 101 RX3 yX3_all wsX3_all) := goodIn_app (goodIn_of _ (by decide +kernel)) ggL_law_X3_all
set_option maxRecDepth 20000 in
theorem ggL_law_L_switched : GoodIn wsL_law wsL_switched := goodIn_ca (goodIn_r _ [400, 129, 401, 402, 403, 2, 404, 135, 136, 24, 18, 409, 410, 411, 412, 413, 414, 415, 416, 417, 418, 419, 420] (by decide +kernel) (by decide +kernel)) (goodIn_sub (fun _ h => List.mem_append_left _ (List.mem_append_right _ h)) (by decide +kernel))
set_option maxRecDepth 20000 in
theorem gL_law_L_switched : GoodIn wsL_law (va_wsS RL 102 yL_switched wsL_switched) := goodIn_app (goodIn_of _ (by decide +kernel)) ggL_law_L_switched
set_option maxRecDepth 20000 in
theorem ggL_law_X3_switched : GoodIn wsL_law wsX3_switched := goodIn_r _ [408, 82, 121, 83, 421, 422, 423, 424, 425, 426, 427, 428, 429, 430, 431, 432, 433, 434, 435, 436, 437, 438, 439, 440, 441, 442, 443, 444] (by decide +kernel) (by decide +kernel)
set_option maxRecDepth 20000 in
theorem gL_law_X3_switched : GoodIn wsL_law (wsV RL 104 RX3 yX3_switched wsX3_switched) := goodIn_app (goodIn_of _ (by decide +kernel)) ggL_law_X3_switched
