set_option maxRecDepth 20000 in
theorem ggL_law_X5_duty : GoodIn wsL_law wsX5_duty := goodIn_r _ [276, 83, 124, 125, 5, 126, 277, 278, 279, 280, 156, 47, 48, 281, 282, 283, 284, 53, 49, 531, 532, 533, 534, 535, 536, 537, 538, 539, 540, 541, 542, 543, 544, 545, 546, 547, 548, 549, 550, 551, 552, 553, 554, 555, 556, 557, 558, 559, 560, 561, 562, 563, 564, 565] (by decide +kernel) (by decide +kernel)
set_option maxRecDepth 20000 in
theorem gL_law_X5_duty : GoodIn wsL_law (wsV RL 60 RX5 yX5_duty wsX5_duty) := goodIn_app (goodIn_of _ (by decide +kernel)) ggL_law_X5_duty
set_option maxRecDepth 20000 in
theorem ggL_law_X4_bare : GoodIn wsL_law wsX4_bare := goodIn_r _ [288, 289, 290, 291, 292, 135, 136, 2, 137, 262, 263, 264, 293, 294, 295, 296, 25, 297, 93, 94, 95, 96, 16, 265, 266, 267, 113, 268, 144, 149, 108, 109, 269, 270, 271, 272, 147, 148, 521, 522, 523, 524, 525, 526, 527, 528, 529, 530, 574, 575, 576, 577, 578, 579, 580, 581, 582, 583, 584] (by decide +kernel) (by decide +kernel)
set_option maxRecDepth 20000 in
theorem gL_law_X4_bare : GoodIn wsL_law (wsV RL 61 RX4 yX4_bare wsX4_bare) := goodIn_app (goodIn_of _ (by decide +kernel)) ggL_law_X4_bare
set_option maxRecDepth 20000 in
theorem ggL_law_X5_bare : GoodIn wsL_law wsX5_bare := goodIn_r _ [301, 83, 124, 125, 5, 126, 277, 278, 279, 280, 156, 47, 48, 281, 282, 283, 284, 53, 49, 531, 532, 533, 534, 535, 536, 537, 538, 539, 540, 541, 542, 543, 544, 545, 546, 547, 548, 549, 550, 551, 552, 553, 554, 555, 556, 557, 558, 559, 560, 561, 562, 563, 564, 565] (by decide +kernel) (by decide +kernel)
set_option maxRecDepth 20000 in
theorem gL_law_X5_bare : GoodIn wsL_law (wsV RL 64 RX5 yX5_bare wsX5_bare) := goodIn_app (goodIn_of _ (by decide +kernel)) ggL_law_X5_bare
set_option maxRecDepth 20000 in
theorem ggL_law_X4_call : GoodIn wsL_law wsX4_call := goodIn_r _ [305, 26, 18, 17, 306, 185, 262, 263, 2, 264, 89, 90, 91, 92, 24, 135, 136, 137, 307, 308, 309, 310, 11, 12, 311, 201, 195, 187, 188, 312, 313, 314, 189, 190, 521, 522, 523, 524, 525, 526, 527, 528, 529, 530, 585, 586, 587, 588, 589, 590, 591, 592, 593] (by decide +kernel) (by decide +kernel)
set_option maxRecDepth 20000 in
theorem gL_law_X4_call : GoodIn wsL_law (wsV RL 65 RX4 yX4_call wsX4_call) := goodIn_app (goodIn_of _ (by decide +kernel)) ggL_law_X4_call
set_option maxRecDepth 20000 in
theorem ggL_law_X5_call : GoodIn wsL_law wsX5_call := goodIn_r _ [318, 83, 206, 57, 58, 59, 60, 61, 124, 125, 5, 126, 120, 121, 122, 123, 84, 531, 532, 533, 534, 535, 536, 537, 538, 539, 540, 541, 542, 543, 544, 545, 546, 547, 548, 549, 550, 551, 552, 553, 554, 555, 556, 557, 558, 559, 560, 561, 562, 563, 564, 565] (by decide +kernel) (by decide +kernel)
set_option maxRecDepth 20000 in
theorem gL_law_X5_call : GoodIn wsL_law (wsV RL 68 RX5 yX5_call wsX5_call) := goodIn_app (goodIn_of _ (by decide +kernel)) ggL_law_X5_call
set_option maxRecDepth 20000 in
theorem ggL_law_X4_best : GoodIn wsL_law wsX4_best := goodIn_r _ [322, 180, 323, 324, 23, 173, 174, 175, 2, 176, 26, 18, 325, 326, 327, 328, 22, 329, 330, 331, 332, 333, 334, 335, 336, 337, 25, 289, 290, 291, 292, 93, 94, 95, 96, 16, 265, 266, 267, 113, 268, 144, 149, 108, 109, 338, 339, 340, 21, 341, 32, 342, 343, 344, 345, 244, 246, 346, 215, 216, 217, 218, 101, 89, 90, 91, 92, 24, 347, 348, 349, 350, 351, 352, 353, 354, 37, 36, 355, 356, 357, 358, 359, 297, 360, 361, 362, 363, 33, 35, 364, 365, 366, 367, 368, 369, 370, 371, 372, 373, 374, 375, 376, 377, 378, 379, 34, 380, 381, 382, 383, 384, 385, 386, 387, 388, 389, 390, 391, 585, 586, 587, 588, 589, 590, 591, 592, 593, 521, 522, 523, 524, 525, 526, 527, 528, 529, 530, 566, 567, 568, 569, 570, 571, 572, 573, 574, 575, 576, 577, 578, 579, 580, 581, 582, 583, 584] (by decide +kernel) (by decide +kernel)
set_option maxRecDepth 20000 in
theorem gL_law_X4_best : GoodIn wsL_law (wsV RL 69 RX4 yX4_best wsX4_best) := goodIn_app (goodIn_of _ (by decide +kernel)) ggL_law_X4_best
set_option maxRecDepth 20000 in
theorem ggL_law_X5_best : GoodIn wsL_law wsX5_best := goodIn_r _ [395, 83, 62, 57, 58, 60, 59, 74, 396, 397, 398, 399, 5, 400, 206, 124, 125, 126, 401, 402, 403, 404, 405, 406, 407, 408, 156, 67, 50, 223, 51, 47, 409, 290, 291, 292, 48, 84, 68, 69, 70, 71, 72, 73, 281, 282, 283, 284, 53, 49, 228, 229, 230, 231, 46, 66, 44, 410, 411, 412, 413, 531, 532, 533, 534, 535, 536, 537, 538, 539, 540, 541, 542, 543, 544, 545, 546, 547, 548, 549, 550, 551, 552, 553, 554, 555, 556, 557, 558, 559, 560, 561, 562, 563, 564, 565] (by decide +kernel) (by decide +kernel)
set_option maxRecDepth 20000 in
theorem gL_law_X5_best : GoodIn wsL_law (wsV RL 72 RX5 yX5_best wsX5_best) := goodIn_app (goodIn_of _ (by decide +kernel)) ggL_law_X5_best
set_option maxRecDepth 20000 in
theorem ggL_law_X4_send : GoodIn wsL_law wsX4_send := goodIn_r _ [417, 180, 323, 324, 28, 173, 174, 175, 2, 176, 26, 18, 325, 326, 327, 328, 22, 329, 330, 331, 332, 23, 333, 334, 335, 336, 337, 25, 289, 290, 291, 292, 93, 94, 95, 96, 16, 265, 266, 267, 113, 268, 144, 149, 108, 109, 338, 339, 340, 21, 341, 32, 342, 343, 344, 345, 244, 246, 346, 215, 216, 217, 218, 101, 89, 90, 91, 92, 24, 347, 348, 349, 350, 351, 352, 353, 354, 37, 36, 355, 356, 357, 358, 359, 297, 360, 361, 362, 363, 33, 35, 364, 365, 366, 367, 368, 369, 370, 371, 372, 373, 374, 375, 376, 377, 378, 379, 34, 380, 381, 382, 383, 384, 385, 386, 387, 388, 389, 390, 391, 418, 419, 420, 421, 422, 423, 424, 425, 426, 427, 428, 27, 247, 248, 429, 430, 431, 432, 11, 12, 433, 434, 435, 436, 437, 438, 439, 440, 441, 442, 443, 185, 444, 195, 201, 445, 446, 447, 448, 449, 450, 192, 193, 194, 196, 197, 198, 199, 200, 585, 586, 587, 588, 589, 590, 591, 592, 593, 521, 522, 523, 524, 525, 526, 527, 528, 529, 530, 566, 567, 568, 569, 570, 571, 572, 573, 574, 575, 576, 577, 578, 579, 580, 581, 582, 583, 584, 594, 595, 596, 597, 598, 599, 600, 601] (by decide +kernel) (by decide +kernel)
set_option maxRecDepth 20000 in
theorem gL_law_X4_send : GoodIn wsL_law (wsV RL 73 RX4 yX4_send wsX4_send) := goodIn_app (goodIn_of _ (by decide +kernel)) ggL_law_X4_send
set_option maxRecDepth 20000 in
theorem ggL_law_X5_send : GoodIn wsL_law wsX5_send := goodIn_r _ [454, 83, 62, 57, 58, 60, 59, 63, 397, 398, 399, 5, 400, 206, 124, 125, 126, 401, 402, 403, 404, 396, 405, 406, 407, 408, 156, 67, 50, 223, 51, 47, 409, 290, 291, 292, 48, 84, 68, 69, 70, 71, 72, 73, 74, 281, 282, 283, 284, 53, 49, 228, 229, 230, 231, 46, 66, 44, 410, 411, 412, 413, 455, 456, 457, 458, 65, 64, 56, 54, 55, 207, 208, 209, 210, 531, 532, 533, 534, 535, 536, 537, 538, 539, 540, 541, 542, 543, 544, 545, 546, 547, 548, 549, 550, 551, 552, 553, 554, 555, 556, 557, 558, 559, 560, 561, 562, 563, 564, 565] (by decide +kernel) (by decide +kernel)
set_option maxRecDepth 20000 in
theorem gL_law_X5_send : GoodIn wsL_law (wsV RL 76 RX5 yX5_send wsX5_send) := goodIn_app (goodIn_of _ (by decide +kernel)) ggL_law_X5_send
set_option maxRecDepth 20000 in
theorem ggL_law_X4_told : GoodIn wsL_law wsX4_told := goodIn_r _ [462, 329, 323, 331, 324, 463, 181, 180, 464, 173, 174, 175, 2, 176, 26, 18, 450, 192, 193, 185, 194, 195, 196, 197, 198, 199, 200, 201, 585, 586, 587, 588, 589, 590, 591, 592, 593, 521, 522, 523, 524, 525, 526, 527, 528, 529, 530, 594, 595, 596, 597, 598, 599, 600, 601] (by decide +kernel) (by decide +kernel)
set_option maxRecDepth 20000 in
theorem gL_law_X4_told : GoodIn wsL_law (wsV RL 77 RX4 yX4_told wsX4_told) := goodIn_app (goodIn_of _ (by decide +kernel)) ggL_law_X4_told
set_option maxRecDepth 20000 in
theorem ggL_law_X5_told : GoodIn wsL_law wsX5_told := goodIn_r _ [468, 83, 57, 58, 59, 60, 61, 62, 65, 397, 398, 399, 5, 400, 206, 124, 125, 126, 207, 208, 209, 210, 64, 531, 532, 533, 534, 535, 536, 537, 538, 539, 540, 541, 542, 543, 544, 545, 546, 547, 548, 549, 550, 551, 552, 553, 554, 555, 556, 557, 558, 559, 560, 561, 562, 563, 564, 565] (by decide +kernel) (by decide +kernel)
set_option maxRecDepth 20000 in
theorem gL_law_X5_told : GoodIn wsL_law (wsV RL 80 RX5 yX5_told wsX5_told) := goodIn_app (goodIn_of _ (by decide +kernel)) ggL_law_X5_told
set_option maxRecDepth 20000 in
theorem ggL_law_X4_leg : GoodIn wsL_law wsX4_leg := goodIn_r _ [472, 473, 474, 475, 476, 477, 478, 173, 174, 175, 2, 176, 26, 18, 479, 198, 199, 185, 200, 195, 201, 594, 595, 596, 597, 598, 599, 600, 601, 521, 522, 523, 524, 525, 526, 527, 528, 529, 530, 585, 586, 587, 588, 589, 590, 591, 592, 593] (by decide +kernel) (by decide +kernel)
set_option maxRecDepth 20000 in
theorem gL_law_X4_leg : GoodIn wsL_law (wsV RL 81 RX4 yX4_leg wsX4_leg) := goodIn_app (goodIn_of _ (by decide +kernel)) ggL_law_X4_leg
set_option maxRecDepth 20000 in
theorem ggL_law_X5_leg : GoodIn wsL_law wsX5_leg := goodIn_r _ [483, 83, 65, 64, 397, 398, 399, 5, 400, 206, 124, 125, 126, 531, 532, 533, 534, 535, 536, 537, 538, 539, 540, 541, 542, 543, 544, 545, 546, 547, 548, 549, 550, 551, 552, 553, 554, 555, 556, 557, 558, 559, 560, 561, 562, 563, 564, 565] (by decide +kernel) (by decide +kernel)
set_option maxRecDepth 20000 in
theorem gL_law_X5_leg : GoodIn wsL_law (wsV RL 84 RX5 yX5_leg wsX5_leg) := goodIn_app (goodIn_of _ (by decide +kernel)) ggL_law_X5_leg
set_option maxRecDepth 20000 in
theorem ggL_law_X4_hand : GoodIn wsL_law wsX4_hand := goodIn_r _ [487, 180, 464, 476, 473, 173, 174, 175, 2, 176, 26, 18, 135, 136, 137, 450, 192, 193, 185, 194, 195, 196, 197, 198, 199, 200, 201, 479, 585, 586, 587, 588, 589, 590, 591, 592, 593, 594, 595, 596, 597, 598, 599, 600, 601, 521, 522, 523, 524, 525, 526, 527, 528, 529, 530] (by decide +kernel) (by decide +kernel)
set_option maxRecDepth 20000 in
theorem gL_law_X4_hand : GoodIn wsL_law (wsV RL 85 RX4 yX4_hand wsX4_hand) := goodIn_app (goodIn_of _ (by decide +kernel)) ggL_law_X4_hand
set_option maxRecDepth 20000 in
theorem ggL_law_X5_hand : GoodIn wsL_law wsX5_hand := goodIn_r _ [491, 83, 62, 65, 64, 397, 398, 399, 5, 400, 206, 124, 125, 126, 207, 208, 209, 210, 531, 532, 533, 534, 535, 536, 537, 538, 539, 540, 541, 542, 543, 544, 545, 546, 547, 548, 549, 550, 551, 552, 553, 554, 555, 556, 557, 558, 559, 560, 561, 562, 563, 564, 565] (by decide +kernel) (by decide +kernel)
set_option maxRecDepth 20000 in
theorem gL_law_X5_hand : GoodIn wsL_law (wsV RL 88 RX5 yX5_hand wsX5_hand) := goodIn_app (goodIn_of _ (by decide +kernel)) ggL_law_X5_hand
set_option maxRecDepth 20000 in
theorem ggL_law_X4_fail : GoodIn wsL_law wsX4_fail := goodIn_r _ [495, 28, 474, 181, 173, 174, 175, 2, 176, 26, 18, 496, 497, 498, 476, 477, 464, 478, 479, 198, 199, 185, 200, 195, 201, 499, 500, 501, 502, 473, 503, 244, 504, 246, 247, 248, 93, 94, 95, 96, 25, 16, 505, 506, 507, 508, 245, 475, 325, 326, 327, 328, 22, 329, 330, 331, 332, 23, 333, 334, 335, 336, 337, 289, 290, 291, 292, 265, 266, 267, 113, 268, 144, 149, 108, 109, 338, 339, 340, 21, 341, 32, 342, 343, 344, 345, 346, 215, 216, 217, 218, 101, 89, 90, 91, 92, 24, 347, 348, 349, 350, 351, 352, 353, 354, 37, 36, 355, 356, 357, 358, 359, 297, 360, 361, 362, 363, 33, 35, 364, 365, 366, 367, 368, 369, 370, 371, 372, 373, 374, 375, 376, 377, 378, 379, 34, 380, 381, 382, 383, 384, 385, 386, 387, 388, 389, 390, 391, 418, 419, 420, 421, 422, 423, 424, 425, 426, 427, 428, 27, 429, 430, 431, 432, 11, 12, 433, 434, 435, 436, 437, 438, 439, 440, 441, 442, 443, 444, 445, 446, 447, 448, 449, 450, 192, 193, 194, 196, 197, 521, 522, 523, 524, 525, 526, 527, 528, 529, 530, 594, 595, 596, 597, 598, 599, 600, 601, 585, 586, 587, 588, 589, 590, 591, 592, 593, 574, 575, 576, 577, 578, 579, 580, 581, 582, 583, 584, 566, 567, 568, 569, 570, 571, 572, 573] (by decide +kernel) (by decide +kernel)
set_option maxRecDepth 20000 in
theorem gL_law_X4_fail : GoodIn wsL_law (wsV RL 89 RX4 yX4_fail wsX4_fail) := goodIn_app (goodIn_of _ (by decide +kernel)) ggL_law_X4_fail
set_option maxRecDepth 20000 in
theorem ggL_law_X5_fail : GoodIn wsL_law wsX5_fail := goodIn_r _ [512, 83, 63, 65, 64, 50, 51, 54, 55, 53, 57, 59, 62, 397, 398, 399, 5, 400, 206, 124, 125, 126, 401, 402, 403, 404, 396, 405, 406, 407, 408, 156, 67, 223, 47, 409, 290, 291, 292, 48, 84, 68, 69, 70, 71, 72, 73, 74, 281, 282, 283, 284, 49, 228, 229, 230, 231, 46, 66, 44, 410, 411, 412, 413, 455, 456, 457, 458, 56, 207, 208, 209, 210, 531, 532, 533, 534, 535, 536, 537, 538, 539, 540, 541, 542, 543, 544, 545, 546, 547, 548, 549, 550, 551, 552, 553, 554, 555, 556, 557, 558, 559, 560, 561, 562, 563, 564, 565] (by decide +kernel) (by decide +kernel)
set_option maxRecDepth 20000 in
theorem gL_law_X5_fail : GoodIn wsL_law (wsV RL 92 RX5 yX5_fail wsX5_fail) := goodIn_app (goodIn_of _ (by decide +kernel)) ggL_law_X5_fail
set_option maxRecDepth 20000 in
theorem ggL_law_X4_next : GoodIn wsL_law wsX4_next := goodIn_r _ [516, 25, 297, 247, 262, 263, 2, 264, 89, 90, 91, 92, 24, 93, 94, 95, 96, 16, 265, 266, 267, 113, 268, 144, 149, 108, 109, 342, 343, 344, 345, 244, 246, 346, 289, 290, 291, 292, 215, 216, 217, 218, 101, 521, 522, 523, 524, 525, 526, 527, 528, 529, 530, 574, 575, 576, 577, 578, 579, 580, 581, 582, 583, 584] (by decide +kernel) (by decide +kernel)
set_option maxRecDepth 20000 in
theorem gL_law_X4_next : GoodIn wsL_law (wsV RL 93 RX4 yX4_next wsX4_next) := goodIn_app (goodIn_of _ (by decide +kernel)) ggL_law_X4_next
set_option maxRecDepth 20000 in
theorem ggL_law_X5_next : GoodIn wsL_law wsX5_next := goodIn_r _ [520, 83, 156, 50, 223, 51, 47, 409, 290, 291, 292, 48, 54, 124, 125, 5, 126, 120, 121, 122, 123, 84, 228, 229, 230, 231, 46, 66, 44, 281, 282, 283, 284, 53, 49, 531, 532, 533, 534, 535, 536, 537, 538, 539, 540, 541, 542, 543, 544, 545, 546, 547, 548, 549, 550, 551, 552, 553, 554, 555, 556, 557, 558, 559, 560, 561, 562, 563, 564, 565] (by decide +kernel) (by decide +kernel)
set_option maxRecDepth 20000 in
theorem gL_law_X5_next : GoodIn wsL_law (wsV RL 96 RX5 yX5_next wsX5_next) := goodIn_app (goodIn_of _ (by decide +kernel)) ggL_law_X5_next
