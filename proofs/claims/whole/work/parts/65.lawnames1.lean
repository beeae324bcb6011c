set_option maxRecDepth 20000 in
theorem gL_law_L_use : GoodIn wsL_law (va_wsS RL 110 yL_use wsL_use) := goodIn_app (goodIn_of _ (by decide +kernel)) ggL_law_L_use
set_option maxRecDepth 20000 in
theorem ggL_law_X5_use : GoodIn wsL_law wsX5_use := goodIn_r _ [293, 120, 279, 280, 281, 5, 282, 259, 174, 175, 176, 177, 178, 179, 180, 181, 607, 608, 609, 610, 611, 612, 613, 614, 615, 616, 617, 618, 619, 620, 621, 622, 623, 624, 625, 626, 627, 628, 629, 630] (by decide +kernel) (by decide +kernel)
set_option maxRecDepth 20000 in
theorem gL_law_X5_use : GoodIn wsL_law (wsV RL 112 RX5 yX5_use wsX5_use) := goodIn_app (goodIn_of _ (by decide +kernel)) ggL_law_X5_use
set_option maxRecDepth 20000 in
theorem ggL_law_L_countsIn : GoodIn wsL_law wsL_countsIn := goodIn_ca (goodIn_r _ [296, 132, 297, 298, 299, 2, 300, 31, 267, 268, 269, 270, 147, 148, 271, 272, 273, 30, 274, 81, 301, 302, 303, 304, 86, 305, 306, 307, 308, 83, 82, 87, 603, 604, 605, 606, 640, 641, 642, 643, 644, 645, 646, 631, 632, 633, 634, 635, 636, 637, 638, 639] (by decide +kernel) (by decide +kernel)) (goodIn_sub (fun _ h => List.mem_append_right _ h) (by decide +kernel))
set_option maxRecDepth 20000 in
theorem gL_law_L_countsIn : GoodIn wsL_law (va_wsS RL 113 yL_countsIn wsL_countsIn) := goodIn_app (goodIn_of _ (by decide +kernel)) ggL_law_L_countsIn
set_option maxRecDepth 20000 in
theorem ggL_law_X5_countsIn : GoodIn wsL_law wsX5_countsIn := goodIn_r _ [312, 279, 280, 281, 5, 282, 259, 174, 175, 176, 177, 178, 179, 180, 181, 217, 218, 219, 220, 128, 121, 169, 115, 112, 113, 313, 314, 315, 316, 120, 317, 318, 319, 320, 116, 117, 607, 608, 609, 610, 611, 612, 613, 614, 615, 616, 617, 618, 619, 620, 621, 622, 623, 624, 625, 626, 627, 628, 629, 630] (by decide +kernel) (by decide +kernel)
set_option maxRecDepth 20000 in
theorem gL_law_X5_countsIn : GoodIn wsL_law (wsV RL 115 RX5 yX5_countsIn wsX5_countsIn) := goodIn_app (goodIn_of _ (by decide +kernel)) ggL_law_X5_countsIn
set_option maxRecDepth 20000 in
theorem ggL_law_L_rank : GoodIn wsL_law wsL_rank := goodIn_ca (goodIn_r _ [323, 132, 324, 325, 326, 2, 327, 35, 27, 143, 144, 145, 146, 147, 148, 149, 150, 151, 19, 152, 55, 328, 329, 330, 34, 331, 332, 333, 334, 335, 95, 93, 336, 302, 303, 30, 304, 86, 305, 306, 307, 308, 83, 82, 87, 337, 338, 339, 340, 341, 342, 343, 344, 345, 346, 347, 348, 603, 604, 605, 606, 631, 632, 633, 634, 635, 636, 637, 638, 639, 647, 648, 649, 640, 641, 642, 643, 644, 645, 646] (by decide +kernel) (by decide +kernel)) (goodIn_sub (fun _ h => List.mem_append_right _ h) (by decide +kernel))
set_option maxRecDepth 20000 in
theorem gL_law_L_rank : GoodIn wsL_law (va_wsS RL 116 yL_rank wsL_rank) := goodIn_app (goodIn_of _ (by decide +kernel)) ggL_law_L_rank
set_option maxRecDepth 20000 in
theorem ggL_law_X5_rank : GoodIn wsL_law wsX5_rank := goodIn_r _ [352, 121, 170, 171, 172, 5, 173, 128, 174, 175, 176, 177, 178, 179, 180, 181, 217, 218, 219, 220, 169, 115, 112, 113, 353, 354, 355, 356, 357, 122, 124, 125, 259, 119, 123, 118, 313, 314, 315, 316, 120, 317, 318, 319, 320, 116, 117, 358, 359, 360, 361, 114, 362, 363, 364, 365, 366, 367, 368, 369, 370, 371, 372, 373, 374, 375, 376, 126, 377, 378, 379, 380, 381, 382, 383, 384, 607, 608, 609, 610, 611, 612, 613, 614, 615, 616, 617, 618, 619, 620, 621, 622, 623, 624, 625, 626, 627, 628, 629, 630] (by decide +kernel) (by decide +kernel)
set_option maxRecDepth 20000 in
theorem gL_law_X5_rank : GoodIn wsL_law (wsV RL 118 RX5 yX5_rank wsX5_rank) := goodIn_app (goodIn_of _ (by decide +kernel)) ggL_law_X5_rank
set_option maxRecDepth 20000 in
theorem ggL_law_L_isObservable : GoodIn wsL_law wsL_isObservable := goodIn_ca (goodIn_r _ [387, 132, 388, 389, 390, 2, 391, 35, 27, 143, 144, 145, 146, 147, 148, 149, 150, 151, 19, 152, 55, 392, 393, 394, 34, 395, 94, 396, 329, 330, 331, 332, 333, 334, 335, 95, 93, 336, 302, 303, 30, 304, 86, 305, 306, 307, 308, 83, 82, 87, 337, 338, 339, 340, 341, 342, 343, 344, 345, 346, 347, 348, 397, 398, 399, 400, 401, 402, 403, 404, 51, 603, 604, 605, 606, 631, 632, 633, 634, 635, 636, 637, 638, 639, 647, 648, 649, 640, 641, 642, 643, 644, 645, 646] (by decide +kernel) (by decide +kernel)) (goodIn_sub (fun _ h => List.mem_append_right _ h) (by decide +kernel))
set_option maxRecDepth 20000 in
theorem gL_law_L_isObservable : GoodIn wsL_law (va_wsS RL 119 yL_isObservable wsL_isObservable) := goodIn_app (goodIn_of _ (by decide +kernel)) ggL_law_L_isObservable
set_option maxRecDepth 20000 in
theorem ggL_law_X5_isObservable : GoodIn wsL_law wsX5_isObservable := goodIn_r _ [408, 121, 170, 171, 172, 5, 173, 128, 174, 175, 176, 177, 178, 179, 180, 181, 217, 218, 219, 220, 169, 115, 112, 113, 409, 410, 411, 412, 413, 353, 354, 355, 356, 357, 122, 124, 125, 259, 119, 123, 118, 313, 314, 315, 316, 120, 317, 318, 319, 320, 116, 117, 358, 359, 360, 361, 114, 362, 363, 364, 365, 373, 374, 375, 376, 126, 377, 378, 379, 380, 381, 382, 383, 384, 607, 608, 609, 610, 611, 612, 613, 614, 615, 616, 617, 618, 619, 620, 621, 622, 623, 624, 625, 626, 627, 628, 629, 630] (by decide +kernel) (by decide +kernel)
set_option maxRecDepth 20000 in
theorem gL_law_X5_isObservable : GoodIn wsL_law (wsV RL 121 RX5 yX5_isObservable wsX5_isObservable) := goodIn_app (goodIn_of _ (by decide +kernel)) ggL_law_X5_isObservable
set_option maxRecDepth 20000 in
theorem ggL_law_L_isCritical : GoodIn wsL_law wsL_isCritical := goodIn_ca (goodIn_r _ [416, 132, 417, 418, 419, 2, 420, 35, 267, 268, 269, 270, 147, 148, 31, 271, 272, 273, 30, 274, 81, 421, 422, 423, 34, 424, 95, 94, 336, 302, 303, 304, 86, 305, 306, 307, 308, 83, 82, 87, 397, 398, 399, 19, 400, 401, 402, 403, 404, 51, 396, 329, 330, 331, 332, 333, 334, 335, 93, 337, 338, 339, 340, 341, 342, 343, 344, 345, 346, 347, 348, 603, 604, 605, 606, 640, 641, 642, 643, 644, 645, 646, 647, 648, 649, 631, 632, 633, 634, 635, 636, 637, 638, 639] (by decide +kernel) (by decide +kernel)) (goodIn_sub (fun _ h => List.mem_append_right _ h) (by decide +kernel))
set_option maxRecDepth 20000 in
theorem gL_law_L_isCritical : GoodIn wsL_law (va_wsS RL 122 yL_isCritical wsL_isCritical) := goodIn_app (goodIn_of _ (by decide +kernel)) ggL_law_L_isCritical
set_option maxRecDepth 20000 in
theorem ggL_law_X5_isCritical : GoodIn wsL_law wsX5_isCritical := goodIn_r _ [428, 279, 280, 281, 5, 282, 259, 174, 175, 176, 177, 178, 179, 180, 181, 217, 218, 219, 220, 128, 121, 169, 115, 112, 113, 429, 430, 431, 432, 313, 314, 315, 316, 120, 317, 318, 319, 320, 116, 117, 409, 410, 411, 412, 413, 353, 354, 355, 356, 357, 122, 124, 125, 119, 123, 118, 358, 359, 360, 361, 114, 362, 363, 364, 365, 373, 374, 375, 376, 126, 377, 378, 379, 380, 381, 382, 383, 384, 607, 608, 609, 610, 611, 612, 613, 614, 615, 616, 617, 618, 619, 620, 621, 622, 623, 624, 625, 626, 627, 628, 629, 630] (by decide +kernel) (by decide +kernel)
set_option maxRecDepth 20000 in
theorem gL_law_X5_isCritical : GoodIn wsL_law (wsV RL 124 RX5 yX5_isCritical wsX5_isCritical) := goodIn_app (goodIn_of _ (by decide +kernel)) ggL_law_X5_isCritical
set_option maxRecDepth 20000 in
theorem ggL_law_L_angleNumerator : GoodIn wsL_law wsL_angleNumerator := goodIn_ca (goodIn_ca (goodIn_r _ [435, 132, 134, 436, 437, 438, 2, 439, 39, 440, 441, 442, 443, 27, 143, 144, 145, 146, 147, 148, 149, 150, 151, 19, 152, 55, 444, 445, 446, 447, 141, 142, 35, 392, 393, 394, 34, 395, 94, 396, 329, 330, 331, 332, 333, 334, 335, 95, 93, 336, 302, 303, 30, 304, 86, 305, 306, 307, 308, 83, 82, 87, 337, 338, 339, 340, 341, 342, 343, 344, 345, 346, 347, 348, 397, 398, 399, 400, 401, 402, 403, 404, 51, 448, 449, 450, 38, 451, 107, 105, 104, 452, 453, 454, 455, 101, 106, 102, 456, 457, 458, 459, 460, 461, 462, 463, 464, 465, 466, 103, 467, 468, 469, 470, 471, 472, 473, 474, 475, 476, 477, 478, 479, 480, 481, 482, 22, 483, 484, 485, 486, 603, 604, 605, 606, 650, 651, 652, 653, 654, 655, 656, 631, 632, 633, 634, 635, 636, 637, 638, 639, 647, 648, 649, 640, 641, 642, 643, 644, 645, 646] (by decide +kernel) (by decide +kernel)) (goodIn_sub (fun _ h => List.mem_append_right _ h) (by decide +kernel))) (goodIn_sub (fun _ h => List.mem_append_left _ (List.mem_append_right _ h)) (by decide +kernel))
set_option maxRecDepth 20000 in
theorem gL_law_L_angleNumerator : GoodIn wsL_law (va_wsS RL 125 yL_angleNumerator wsL_angleNumerator) := goodIn_app (goodIn_of _ (by decide +kernel)) ggL_law_L_angleNumerator
set_option maxRecDepth 20000 in
theorem ggL_law_X5_angleNumerator : GoodIn wsL_law wsX5_angleNumerator := goodIn_r _ [490, 491, 492, 493, 494, 5, 495, 121, 122, 127, 413, 217, 218, 219, 220, 128, 169, 115, 112, 113, 170, 171, 172, 173, 174, 175, 176, 409, 410, 411, 412, 353, 354, 355, 356, 357, 124, 125, 259, 119, 123, 118, 313, 314, 315, 316, 120, 317, 318, 319, 320, 116, 117, 358, 359, 360, 361, 114, 362, 363, 364, 365, 373, 374, 375, 376, 126, 377, 378, 379, 380, 381, 382, 383, 384, 177, 178, 179, 180, 181, 496, 497, 498, 499, 500, 501, 502, 503, 504, 607, 608, 609, 610, 611, 612, 613, 614, 615, 616, 617, 618, 619, 620, 621, 622, 623, 624, 625, 626, 627, 628, 629, 630] (by decide +kernel) (by decide +kernel)
set_option maxRecDepth 20000 in
theorem gL_law_X5_angleNumerator : GoodIn wsL_law (wsV RL 127 RX5 yX5_angleNumerator wsX5_angleNumerator) := goodIn_app (goodIn_of _ (by decide +kernel)) ggL_law_X5_angleNumerator
set_option maxRecDepth 20000 in
theorem ggL_law_L_angleDenominator : GoodIn wsL_law wsL_angleDenominator := goodIn_ca (goodIn_ca (goodIn_r _ [507, 132, 134, 508, 509, 510, 2, 511, 39, 440, 441, 442, 443, 27, 143, 144, 145, 146, 147, 148, 149, 150, 151, 19, 152, 55, 444, 445, 446, 447, 141, 142, 35, 392, 393, 394, 34, 395, 94, 396, 329, 330, 331, 332, 333, 334, 335, 95, 93, 336, 302, 303, 30, 304, 86, 305, 306, 307, 308, 83, 82, 87, 337, 338, 339, 340, 341, 342, 343, 344, 345, 346, 347, 348, 397, 398, 399, 400, 401, 402, 403, 404, 51, 448, 449, 450, 38, 451, 107, 105, 104, 452, 453, 454, 455, 101, 106, 102, 456, 457, 458, 459, 460, 461, 462, 463, 464, 465, 466, 103, 467, 468, 469, 470, 471, 472, 473, 474, 475, 476, 477, 478, 479, 480, 481, 482, 22, 483, 484, 485, 486, 603, 604, 605, 606, 650, 651, 652, 653, 654, 655, 656, 631, 632, 633, 634, 635, 636, 637, 638, 639, 647, 648, 649, 640, 641, 642, 643, 644, 645, 646] (by decide +kernel) (by decide +kernel)) (goodIn_sub (fun _ h => List.mem_append_right _ h) (by decide +kernel))) (goodIn_sub (fun _ h => List.mem_append_left _ (List.mem_append_right _ h)) (by decide +kernel))
set_option maxRecDepth 20000 in
theorem gL_law_L_angleDenominator : GoodIn wsL_law (va_wsS RL 128 yL_angleDenominator wsL_angleDenominator) := goodIn_app (goodIn_of _ (by decide +kernel)) ggL_law_L_angleDenominator
set_option maxRecDepth 20000 in
theorem ggL_law_X5_angleDenominator : GoodIn wsL_law wsX5_angleDenominator := goodIn_r _ [515, 504, 492, 493, 494, 5, 495, 121, 122, 127, 413, 217, 218, 219, 220, 128, 169, 115, 112, 113, 170, 171, 172, 173, 174, 175, 176, 409, 410, 411, 412, 353, 354, 355, 356, 357, 124, 125, 259, 119, 123, 118, 313, 314, 315, 316, 120, 317, 318, 319, 320, 116, 117, 358, 359, 360, 361, 114, 362, 363, 364, 365, 373, 374, 375, 376, 126, 377, 378, 379, 380, 381, 382, 383, 384, 177, 178, 179, 180, 181, 496, 497, 498, 499, 500, 501, 502, 503, 491, 607, 608, 609, 610, 611, 612, 613, 614, 615, 616, 617, 618, 619, 620, 621, 622, 623, 624, 625, 626, 627, 628, 629, 630] (by decide +kernel) (by decide +kernel)
set_option maxRecDepth 20000 in
theorem gL_law_X5_angleDenominator : GoodIn wsL_law (wsV RL 130 RX5 yX5_angleDenominator wsX5_angleDenominator) := goodIn_app (goodIn_of _ (by decide +kernel)) ggL_law_X5_angleDenominator
set_option maxRecDepth 20000 in
theorem ggL_law_L_residualNumerator : GoodIn wsL_law wsL_residualNumerator := goodIn_ca (goodIn_ca (goodIn_r _ [518, 132, 134, 519, 520, 521, 2, 522, 39, 523, 524, 525, 526, 141, 142, 31, 267, 268, 269, 270, 147, 148, 271, 272, 273, 30, 274, 81, 527, 306, 307, 308, 83, 82, 87, 444, 445, 446, 447, 35, 392, 393, 394, 34, 395, 94, 396, 329, 330, 331, 332, 333, 334, 335, 95, 93, 336, 302, 303, 304, 86, 305, 337, 338, 339, 340, 341, 342, 343, 344, 345, 346, 347, 348, 397, 398, 399, 19, 400, 401, 402, 403, 404, 51, 448, 449, 450, 38, 451, 107, 105, 104, 452, 453, 454, 455, 101, 106, 102, 456, 457, 458, 459, 460, 461, 462, 463, 464, 465, 466, 103, 467, 468, 469, 470, 471, 472, 473, 474, 475, 476, 477, 528, 529, 530, 531, 478, 479, 480, 481, 482, 22, 483, 484, 485, 486, 603, 604, 605, 606, 650, 651, 652, 653, 654, 655, 656, 640, 641, 642, 643, 644, 645, 646, 631, 632, 633, 634, 635, 636, 637, 638, 639, 647, 648, 649] (by decide +kernel) (by decide +kernel)) (goodIn_sub (fun _ h => List.mem_append_left _ (List.mem_append_right _ h)) (by decide +kernel))) (goodIn_sub (fun _ h => List.mem_append_right _ h) (by decide +kernel))
set_option maxRecDepth 20000 in
theorem gL_law_L_residualNumerator : GoodIn wsL_law (va_wsS RL 131 yL_residualNumerator wsL_residualNumerator) := goodIn_app (goodIn_of _ (by decide +kernel)) ggL_law_L_residualNumerator
set_option maxRecDepth 20000 in
theorem ggL_law_X5_residualNumerator : GoodIn wsL_law wsX5_residualNumerator := goodIn_r _ [535, 491, 536, 537, 538, 5, 539, 413, 217, 218, 219, 220, 128, 121, 169, 115, 112, 113, 279, 280, 281, 282, 259, 174, 175, 176, 317, 318, 319, 320, 116, 117, 409, 410, 411, 412, 353, 354, 355, 356, 357, 122, 124, 125, 119, 123, 118, 313, 314, 315, 316, 120, 358, 359, 360, 361, 114, 362, 363, 364, 365, 373, 374, 375, 376, 126, 377, 378, 379, 380, 381, 382, 383, 384, 177, 178, 179, 180, 181, 496, 497, 498, 499, 127, 540, 541, 542, 543, 500, 501, 502, 503, 504, 607, 608, 609, 610, 611, 612, 613, 614, 615, 616, 617, 618, 619, 620, 621, 622, 623, 624, 625, 626, 627, 628, 629, 630] (by decide +kernel) (by decide +kernel)
set_option maxRecDepth 20000 in
theorem gL_law_X5_residualNumerator : GoodIn wsL_law (wsV RL 133 RX5 yX5_residualNumerator wsX5_residualNumerator) := goodIn_app (goodIn_of _ (by decide +kernel)) ggL_law_X5_residualNumerator
set_option maxRecDepth 20000 in
theorem ggL_law_L_residualDenominator : GoodIn wsL_law wsL_residualDenominator := goodIn_ca (goodIn_ca (goodIn_r _ [546, 132, 134, 547, 548, 549, 2, 550, 39, 523, 524, 525, 526, 141, 142, 31, 267, 268, 269, 270, 147, 148, 271, 272, 273, 30, 274, 81, 527, 306, 307, 308, 83, 82, 87, 444, 445, 446, 447, 35, 392, 393, 394, 34, 395, 94, 396, 329, 330, 331, 332, 333, 334, 335, 95, 93, 336, 302, 303, 304, 86, 305, 337, 338, 339, 340, 341, 342, 343, 344, 345, 346, 347, 348, 397, 398, 399, 19, 400, 401, 402, 403, 404, 51, 448, 449, 450, 38, 451, 107, 105, 104, 452, 453, 454, 455, 101, 106, 102, 456, 457, 458, 459, 460, 461, 462, 463, 464, 465, 466, 103, 467, 468, 469, 470, 471, 472, 473, 474, 475, 476, 477, 528, 529, 530, 531, 478, 479, 480, 481, 482, 22, 483, 484, 485, 486, 603, 604, 605, 606, 650, 651, 652, 653, 654, 655, 656, 640, 641, 642, 643, 644, 645, 646, 631, 632, 633, 634, 635, 636, 637, 638, 639, 647, 648, 649] (by decide +kernel) (by decide +kernel)) (goodIn_sub (fun _ h => List.mem_append_left _ (List.mem_append_right _ h)) (by decide +kernel))) (goodIn_sub (fun _ h => List.mem_append_right _ h) (by decide +kernel))
set_option maxRecDepth 20000 in
theorem gL_law_L_residualDenominator : GoodIn wsL_law (va_wsS RL 134 yL_residualDenominator wsL_residualDenominator) := goodIn_app (goodIn_of _ (by decide +kernel)) ggL_law_L_residualDenominator
set_option maxRecDepth 20000 in
theorem ggL_law_X5_residualDenominator : GoodIn wsL_law wsX5_residualDenominator := goodIn_r _ [554, 504, 536, 537, 538, 5, 539, 413, 217, 218, 219, 220, 128, 121, 169, 115, 112, 113, 279, 280, 281, 282, 259, 174, 175, 176, 317, 318, 319, 320, 116, 117, 409, 410, 411, 412, 353, 354, 355, 356, 357, 122, 124, 125, 119, 123, 118, 313, 314, 315, 316, 120, 358, 359, 360, 361, 114, 362, 363, 364, 365, 373, 374, 375, 376, 126, 377, 378, 379, 380, 381, 382, 383, 384, 177, 178, 179, 180, 181, 496, 497, 498, 499, 127, 540, 541, 542, 543, 500, 501, 502, 503, 491, 607, 608, 609, 610, 611, 612, 613, 614, 615, 616, 617, 618, 619, 620, 621, 622, 623, 624, 625, 626, 627, 628, 629, 630] (by decide +kernel) (by decide +kernel)
set_option maxRecDepth 20000 in
theorem gL_law_X5_residualDenominator : GoodIn wsL_law (wsV RL 136 RX5 yX5_residualDenominator wsX5_residualDenominator) := goodIn_app (goodIn_of _ (by decide +kernel)) ggL_law_X5_residualDenominator
set_option maxRecDepth 20000 in
theorem ggL_law_L_worst : GoodIn wsL_law wsL_worst := goodIn_ca (goodIn_ca (goodIn_r _ [557, 132, 134, 558, 559, 560, 2, 561, 39, 27, 440, 441, 442, 443, 143, 144, 145, 146, 147, 148, 149, 150, 151, 19, 152, 55, 444, 445, 446, 447, 141, 142, 35, 392, 393, 394, 34, 395, 94, 396, 329, 330, 331, 332, 333, 334, 335, 95, 93, 336, 302, 303, 30, 304, 86, 305, 306, 307, 308, 83, 82, 87, 337, 338, 339, 340, 341, 342, 343, 344, 345, 346, 347, 348, 397, 398, 399, 400, 401, 402, 403, 404, 51, 448, 449, 450, 38, 451, 107, 105, 104, 452, 453, 454, 455, 101, 106, 102, 456, 457, 458, 459, 460, 461, 462, 463, 464, 465, 466, 103, 467, 468, 469, 470, 471, 472, 473, 474, 475, 476, 477, 562, 563, 564, 565, 566, 567, 568, 569, 570, 482, 22, 483, 571, 529, 530, 531, 603, 604, 605, 606, 631, 632, 633, 634, 635, 636, 637, 638, 639, 647, 648, 649, 640, 641, 642, 643, 644, 645, 646, 650, 651, 652, 653, 654, 655, 656] (by decide +kernel) (by decide +kernel)) (goodIn_sub (fun _ h => List.mem_append_right _ h) (by decide +kernel))) (goodIn_sub (fun _ h => List.mem_append_left _ (List.mem_append_right _ h)) (by decide +kernel))
set_option maxRecDepth 20000 in
theorem gL_law_L_worst : GoodIn wsL_law (va_wsS RL 137 yL_worst wsL_worst) := goodIn_app (goodIn_of _ (by decide +kernel)) ggL_law_L_worst
set_option maxRecDepth 20000 in
theorem ggL_law_X5_worst : GoodIn wsL_law wsX5_worst := goodIn_r _ [575, 121, 217, 218, 219, 5, 220, 128, 169, 115, 112, 113, 170, 171, 172, 173, 174, 175, 176, 409, 410, 411, 412, 413, 353, 354, 355, 356, 357, 122, 124, 125, 259, 119, 123, 118, 313, 314, 315, 316, 120, 317, 318, 319, 320, 116, 117, 358, 359, 360, 361, 114, 362, 363, 364, 365, 373, 374, 375, 376, 126, 377, 378, 379, 380, 381, 382, 383, 384, 177, 178, 179, 180, 181, 576, 577, 578, 579, 496, 497, 498, 499, 127, 580, 581, 582, 583, 540, 541, 542, 543, 607, 608, 609, 610, 611, 612, 613, 614, 615, 616, 617, 618, 619, 620, 621, 622, 623, 624, 625, 626, 627, 628, 629, 630] (by decide +kernel) (by decide +kernel)
set_option maxRecDepth 20000 in
theorem gL_law_X5_worst : GoodIn wsL_law (wsV RL 139 RX5 yX5_worst wsX5_worst) := goodIn_app (goodIn_of _ (by decide +kernel)) ggL_law_X5_worst
set_option maxRecDepth 20000 in
theorem ggL_law_L_clean : GoodIn wsL_law wsL_clean := goodIn_ca (goodIn_ca (goodIn_ca (goodIn_r _ [586, 132, 133, 134, 587, 588, 589, 2, 590, 139, 140, 27, 143, 144, 145, 146, 147, 148, 149, 150, 151, 19, 152, 55, 444, 445, 446, 447, 141, 142, 35, 392, 393, 394, 34, 395, 94, 396, 329, 330, 331, 332, 333, 334, 335, 95, 93, 336, 302, 303, 30, 304, 86, 305, 306, 307, 308, 83, 82, 87, 337, 338, 339, 340, 341, 342, 343, 344, 345, 346, 347, 348, 397, 398, 399, 400, 401, 402, 403, 404, 51, 591, 592, 593, 594, 39, 31, 448, 449, 450, 38, 451, 107, 105, 104, 452, 453, 454, 455, 101, 106, 102, 456, 457, 458, 459, 460, 461, 462, 463, 464, 465, 466, 103, 467, 468, 469, 470, 471, 472, 473, 474, 475, 476, 477, 562, 563, 564, 565, 566, 567, 568, 569, 570, 482, 22, 483, 571, 529, 530, 531, 595, 596, 597, 598, 421, 422, 423, 424, 603, 604, 605, 606, 631, 632, 633, 634, 635, 636, 637, 638, 639, 647, 648, 649, 640, 641, 642, 643, 644, 645, 646, 650, 651, 652, 653, 654, 655, 656] (by decide +kernel) (by decide +kernel)) (goodIn_sub (fun _ h => List.mem_append_left _ (List.mem_append_left _ (List.mem_append_right _ h))) (by decide +kernel))) (goodIn_sub (fun _ h => List.mem_append_right _ h) (by decide +kernel))) (goodIn_sub (fun _ h => List.mem_append_left _ (List.mem_append_right _ h)) (by decide +kernel))
set_option maxRecDepth 20000 in
theorem gL_law_L_clean : GoodIn wsL_law (va_wsS RL 140 yL_clean wsL_clean) := goodIn_app (goodIn_of _ (by decide +kernel)) ggL_law_L_clean
set_option maxRecDepth 20000 in
theorem ggL_law_X5_clean : GoodIn wsL_law wsX5_clean := goodIn_r _ [602, 121, 413, 120, 217, 218, 219, 5, 220, 128, 169, 115, 112, 113, 170, 171, 172, 173, 174, 175, 176, 409, 410, 411, 412, 353, 354, 355, 356, 357, 122, 124, 125, 259, 119, 123, 118, 313, 314, 315, 316, 317, 318, 319, 320, 116, 117, 358, 359, 360, 361, 114, 362, 363, 364, 365, 373, 374, 375, 376, 126, 377, 378, 379, 380, 381, 382, 383, 384, 177, 178, 179, 180, 181, 576, 577, 578, 579, 496, 497, 498, 499, 127, 580, 581, 582, 583, 540, 541, 542, 543, 429, 430, 431, 432, 607, 608, 609, 610, 611, 612, 613, 614, 615, 616, 617, 618, 619, 620, 621, 622, 623, 624, 625, 626, 627, 628, 629, 630] (by decide +kernel) (by decide +kernel)
set_option maxRecDepth 20000 in
theorem gL_law_X5_clean : GoodIn wsL_law (wsV RL 142 RX5 yX5_clean wsX5_clean) := goodIn_app (goodIn_of _ (by decide +kernel)) ggL_law_X5_clean
theorem dL_law_0 : decode cL_law 0 = .ok (.new 8, 3) := by decide +kernel
theorem dL_law_3 : decode cL_law 3 = .ok (.dup, 1) := by decide +kernel
theorem dL_law_4 : decode cL_law 4 = .ok (.aload_n 0, 1) := by decide +kernel
theorem dL_law_5 : decode cL_law 5 = .ok (.iconst 0, 1) := by decide +kernel
theorem dL_law_6 : decode cL_law 6 = .ok (.invokestatic 70, 3) := by decide +kernel
theorem dL_law_9 : decode cL_law 9 = .ok (.invokespecial 76, 3) := by decide +kernel
theorem dL_law_12 : decode cL_law 12 = .ok (.astore_n 1, 1) := by decide +kernel
theorem dL_law_13 : decode cL_law 13 = .ok (.new 79, 3) := by decide +kernel
theorem dL_law_16 : decode cL_law 16 = .ok (.dup, 1) := by decide +kernel
theorem dL_law_17 : decode cL_law 17 = .ok (.aload_n 0, 1) := by decide +kernel
theorem dL_law_18 : decode cL_law 18 = .ok (.iconst 0, 1) := by decide +kernel
theorem dL_law_19 : decode cL_law 19 = .ok (.invokestatic 70, 3) := by decide +kernel
theorem dL_law_22 : decode cL_law 22 = .ok (.invokespecial 81, 3) := by decide +kernel
theorem dL_law_25 : decode cL_law 25 = .ok (.astore_n 2, 1) := by decide +kernel
theorem dL_law_26 : decode cL_law 26 = .ok (.iconst 1, 1) := by decide +kernel
theorem dL_law_27 : decode cL_law 27 = .ok (.newarray .long, 2) := by decide +kernel
theorem dL_law_29 : decode cL_law 29 = .ok (.astore_n 3, 1) := by decide +kernel
theorem dL_law_30 : decode cL_law 30 = .ok (.iconst 1, 1) := by decide +kernel
theorem dL_law_31 : decode cL_law 31 = .ok (.istore 4, 2) := by decide +kernel
theorem dL_law_33 : decode cL_law 33 = .ok (.iload 4, 2) := by decide +kernel
theorem dL_law_35 : decode cL_law 35 = .ok (.aload_n 0, 1) := by decide +kernel
theorem dL_law_36 : decode cL_law 36 = .ok (.arraylength, 1) := by decide +kernel
theorem dL_law_37 : decode cL_law 37 = .ok (.iconst 5, 1) := by decide +kernel
theorem dL_law_38 : decode cL_law 38 = .ok (.isub, 1) := by decide +kernel
theorem dL_law_39 : decode cL_law 39 = .ok (.if_icmp .gt 1172, 3) := by decide +kernel
theorem dL_law_42 : decode cL_law 42 = .ok (.aload_n 0, 1) := by decide +kernel
theorem dL_law_43 : decode cL_law 43 = .ok (.iload 4, 2) := by decide +kernel
theorem dL_law_45 : decode cL_law 45 = .ok (.iaload, 1) := by decide +kernel
theorem dL_law_46 : decode cL_law 46 = .ok (.bipush 31, 2) := by decide +kernel
theorem dL_law_48 : decode cL_law 48 = .ok (.iand, 1) := by decide +kernel
theorem dL_law_49 : decode cL_law 49 = .ok (.tableswitch 1156 0 16 #[83, 163, 254, 267, 323, 415, 483, 574, 630, 686, 749, 812, 867, 922, 977, 1032, 1088], 83) := by decide +kernel
theorem dL_law_132 : decode cL_law 132 = .ok (.aload_n 1, 1) := by decide +kernel
theorem dL_law_133 : decode cL_law 133 = .ok (.aload_n 0, 1) := by decide +kernel
theorem dL_law_134 : decode cL_law 134 = .ok (.iload 4, 2) := by decide +kernel
theorem dL_law_136 : decode cL_law 136 = .ok (.iconst 1, 1) := by decide +kernel
theorem dL_law_137 : decode cL_law 137 = .ok (.iadd, 1) := by decide +kernel
theorem dL_law_138 : decode cL_law 138 = .ok (.iaload, 1) := by decide +kernel
theorem dL_law_139 : decode cL_law 139 = .ok (.aload_n 0, 1) := by decide +kernel
theorem dL_law_140 : decode cL_law 140 = .ok (.iload 4, 2) := by decide +kernel
theorem dL_law_142 : decode cL_law 142 = .ok (.iconst 2, 1) := by decide +kernel
theorem dL_law_143 : decode cL_law 143 = .ok (.iadd, 1) := by decide +kernel
theorem dL_law_144 : decode cL_law 144 = .ok (.iaload, 1) := by decide +kernel
theorem dL_law_145 : decode cL_law 145 = .ok (.aload_n 0, 1) := by decide +kernel
theorem dL_law_146 : decode cL_law 146 = .ok (.iload 4, 2) := by decide +kernel
theorem dL_law_148 : decode cL_law 148 = .ok (.iconst 3, 1) := by decide +kernel
theorem dL_law_149 : decode cL_law 149 = .ok (.iadd, 1) := by decide +kernel
theorem dL_law_150 : decode cL_law 150 = .ok (.iaload, 1) := by decide +kernel
theorem dL_law_151 : decode cL_law 151 = .ok (.aload_n 3, 1) := by decide +kernel
theorem dL_law_152 : decode cL_law 152 = .ok (.invokestatic 82, 3) := by decide +kernel
theorem dL_law_155 : decode cL_law 155 = .ok (.istore 5, 2) := by decide +kernel
theorem dL_law_157 : decode cL_law 157 = .ok (.aload_n 2, 1) := by decide +kernel
theorem dL_law_158 : decode cL_law 158 = .ok (.aload_n 0, 1) := by decide +kernel
theorem dL_law_159 : decode cL_law 159 = .ok (.iload 4, 2) := by decide +kernel
theorem dL_law_161 : decode cL_law 161 = .ok (.iconst 1, 1) := by decide +kernel
theorem dL_law_162 : decode cL_law 162 = .ok (.iadd, 1) := by decide +kernel
theorem dL_law_163 : decode cL_law 163 = .ok (.iaload, 1) := by decide +kernel
theorem dL_law_164 : decode cL_law 164 = .ok (.aload_n 0, 1) := by decide +kernel
theorem dL_law_165 : decode cL_law 165 = .ok (.iload 4, 2) := by decide +kernel
theorem dL_law_167 : decode cL_law 167 = .ok (.iconst 2, 1) := by decide +kernel
theorem dL_law_168 : decode cL_law 168 = .ok (.iadd, 1) := by decide +kernel
theorem dL_law_169 : decode cL_law 169 = .ok (.iaload, 1) := by decide +kernel
theorem dL_law_170 : decode cL_law 170 = .ok (.aload_n 0, 1) := by decide +kernel
theorem dL_law_171 : decode cL_law 171 = .ok (.iload 4, 2) := by decide +kernel
theorem dL_law_173 : decode cL_law 173 = .ok (.iconst 3, 1) := by decide +kernel
theorem dL_law_174 : decode cL_law 174 = .ok (.iadd, 1) := by decide +kernel
theorem dL_law_175 : decode cL_law 175 = .ok (.iaload, 1) := by decide +kernel
theorem dL_law_176 : decode cL_law 176 = .ok (.invokevirtual 85, 3) := by decide +kernel
theorem dL_law_179 : decode cL_law 179 = .ok (.istore 6, 2) := by decide +kernel
theorem dL_law_181 : decode cL_law 181 = .ok (.aload_n 2, 1) := by decide +kernel
theorem dL_law_182 : decode cL_law 182 = .ok (.invokevirtual 86, 3) := by decide +kernel
theorem dL_law_185 : decode cL_law 185 = .ok (.iload 5, 2) := by decide +kernel
theorem dL_law_187 : decode cL_law 187 = .ok (.if_icmp .eq 5, 3) := by decide +kernel
theorem dL_law_190 : decode cL_law 190 = .ok (.iconst 0, 1) := by decide +kernel
theorem dL_law_191 : decode cL_law 191 = .ok (.ireturn, 1) := by decide +kernel
theorem dL_law_192 : decode cL_law 192 = .ok (.iload 5, 2) := by decide +kernel
theorem dL_law_194 : decode cL_law 194 = .ok (.ifCond .ne 15, 3) := by decide +kernel
theorem dL_law_197 : decode cL_law 197 = .ok (.aload_n 3, 1) := by decide +kernel
theorem dL_law_198 : decode cL_law 198 = .ok (.iconst 0, 1) := by decide +kernel
theorem dL_law_199 : decode cL_law 199 = .ok (.laload, 1) := by decide +kernel
theorem dL_law_200 : decode cL_law 200 = .ok (.iload 6, 2) := by decide +kernel
theorem dL_law_202 : decode cL_law 202 = .ok (.i2l, 1) := by decide +kernel
theorem dL_law_203 : decode cL_law 203 = .ok (.lcmp, 1) := by decide +kernel
theorem dL_law_204 : decode cL_law 204 = .ok (.ifCond .eq 5, 3) := by decide +kernel
theorem dL_law_207 : decode cL_law 207 = .ok (.iconst 0, 1) := by decide +kernel
theorem dL_law_208 : decode cL_law 208 = .ok (.ireturn, 1) := by decide +kernel
theorem dL_law_209 : decode cL_law 209 = .ok (.goto 996, 3) := by decide +kernel
theorem dL_law_212 : decode cL_law 212 = .ok (.aload_n 1, 1) := by decide +kernel
theorem dL_law_213 : decode cL_law 213 = .ok (.aload_n 0, 1) := by decide +kernel
theorem dL_law_214 : decode cL_law 214 = .ok (.iload 4, 2) := by decide +kernel
theorem dL_law_216 : decode cL_law 216 = .ok (.iconst 1, 1) := by decide +kernel
theorem dL_law_217 : decode cL_law 217 = .ok (.iadd, 1) := by decide +kernel
theorem dL_law_218 : decode cL_law 218 = .ok (.iaload, 1) := by decide +kernel
theorem dL_law_219 : decode cL_law 219 = .ok (.aload_n 0, 1) := by decide +kernel
theorem dL_law_220 : decode cL_law 220 = .ok (.iload 4, 2) := by decide +kernel
theorem dL_law_222 : decode cL_law 222 = .ok (.iconst 2, 1) := by decide +kernel
theorem dL_law_223 : decode cL_law 223 = .ok (.iadd, 1) := by decide +kernel
theorem dL_law_224 : decode cL_law 224 = .ok (.iaload, 1) := by decide +kernel
theorem dL_law_225 : decode cL_law 225 = .ok (.ifCond .eq 7, 3) := by decide +kernel
theorem dL_law_228 : decode cL_law 228 = .ok (.iconst 1, 1) := by decide +kernel
theorem dL_law_229 : decode cL_law 229 = .ok (.goto 4, 3) := by decide +kernel
theorem dL_law_232 : decode cL_law 232 = .ok (.iconst 0, 1) := by decide +kernel
theorem dL_law_233 : decode cL_law 233 = .ok (.aload_n 3, 1) := by decide +kernel
theorem dL_law_234 : decode cL_law 234 = .ok (.invokestatic 90, 3) := by decide +kernel
theorem dL_law_237 : decode cL_law 237 = .ok (.istore 5, 2) := by decide +kernel
theorem dL_law_239 : decode cL_law 239 = .ok (.aload_n 2, 1) := by decide +kernel
theorem dL_law_240 : decode cL_law 240 = .ok (.aload_n 0, 1) := by decide +kernel
theorem dL_law_241 : decode cL_law 241 = .ok (.iload 4, 2) := by decide +kernel
theorem dL_law_243 : decode cL_law 243 = .ok (.iconst 1, 1) := by decide +kernel
theorem dL_law_244 : decode cL_law 244 = .ok (.iadd, 1) := by decide +kernel
theorem dL_law_245 : decode cL_law 245 = .ok (.iaload, 1) := by decide +kernel
theorem dL_law_246 : decode cL_law 246 = .ok (.aload_n 0, 1) := by decide +kernel
theorem dL_law_247 : decode cL_law 247 = .ok (.iload 4, 2) := by decide +kernel
theorem dL_law_249 : decode cL_law 249 = .ok (.iconst 2, 1) := by decide +kernel
theorem dL_law_250 : decode cL_law 250 = .ok (.iadd, 1) := by decide +kernel
theorem dL_law_251 : decode cL_law 251 = .ok (.iaload, 1) := by decide +kernel
theorem dL_law_252 : decode cL_law 252 = .ok (.ifCond .eq 7, 3) := by decide +kernel
theorem dL_law_255 : decode cL_law 255 = .ok (.iconst 1, 1) := by decide +kernel
theorem dL_law_256 : decode cL_law 256 = .ok (.goto 4, 3) := by decide +kernel
theorem dL_law_259 : decode cL_law 259 = .ok (.iconst 0, 1) := by decide +kernel
theorem dL_law_260 : decode cL_law 260 = .ok (.invokevirtual 93, 3) := by decide +kernel
theorem dL_law_263 : decode cL_law 263 = .ok (.istore 6, 2) := by decide +kernel
theorem dL_law_265 : decode cL_law 265 = .ok (.aload_n 2, 1) := by decide +kernel
theorem dL_law_266 : decode cL_law 266 = .ok (.invokevirtual 86, 3) := by decide +kernel
theorem dL_law_269 : decode cL_law 269 = .ok (.iload 5, 2) := by decide +kernel
theorem dL_law_271 : decode cL_law 271 = .ok (.if_icmp .eq 5, 3) := by decide +kernel
theorem dL_law_274 : decode cL_law 274 = .ok (.iconst 0, 1) := by decide +kernel
theorem dL_law_275 : decode cL_law 275 = .ok (.ireturn, 1) := by decide +kernel
theorem dL_law_276 : decode cL_law 276 = .ok (.iload 5, 2) := by decide +kernel
theorem dL_law_278 : decode cL_law 278 = .ok (.ifCond .ne 22, 3) := by decide +kernel
theorem dL_law_281 : decode cL_law 281 = .ok (.aload_n 3, 1) := by decide +kernel
theorem dL_law_282 : decode cL_law 282 = .ok (.iconst 0, 1) := by decide +kernel
theorem dL_law_283 : decode cL_law 283 = .ok (.laload, 1) := by decide +kernel
theorem dL_law_284 : decode cL_law 284 = .ok (.iload 6, 2) := by decide +kernel
theorem dL_law_286 : decode cL_law 286 = .ok (.ifCond .eq 7, 3) := by decide +kernel
theorem dL_law_289 : decode cL_law 289 = .ok (.lconst 1, 1) := by decide +kernel
theorem dL_law_290 : decode cL_law 290 = .ok (.goto 4, 3) := by decide +kernel
theorem dL_law_293 : decode cL_law 293 = .ok (.lconst 0, 1) := by decide +kernel
theorem dL_law_294 : decode cL_law 294 = .ok (.lcmp, 1) := by decide +kernel
theorem dL_law_295 : decode cL_law 295 = .ok (.ifCond .eq 5, 3) := by decide +kernel
theorem dL_law_298 : decode cL_law 298 = .ok (.iconst 0, 1) := by decide +kernel
theorem dL_law_299 : decode cL_law 299 = .ok (.ireturn, 1) := by decide +kernel
theorem dL_law_300 : decode cL_law 300 = .ok (.goto 905, 3) := by decide +kernel
theorem dL_law_303 : decode cL_law 303 = .ok (.aload_n 1, 1) := by decide +kernel
theorem dL_law_304 : decode cL_law 304 = .ok (.invokevirtual 94, 3) := by decide +kernel
theorem dL_law_307 : decode cL_law 307 = .ok (.aload_n 2, 1) := by decide +kernel
theorem dL_law_308 : decode cL_law 308 = .ok (.invokevirtual 97, 3) := by decide +kernel
theorem dL_law_311 : decode cL_law 311 = .ok (.if_icmp .eq 894, 3) := by decide +kernel
theorem dL_law_314 : decode cL_law 314 = .ok (.iconst 0, 1) := by decide +kernel
theorem dL_law_315 : decode cL_law 315 = .ok (.ireturn, 1) := by decide +kernel
theorem dL_law_316 : decode cL_law 316 = .ok (.aload_n 1, 1) := by decide +kernel
theorem dL_law_317 : decode cL_law 317 = .ok (.aload_n 0, 1) := by decide +kernel
theorem dL_law_318 : decode cL_law 318 = .ok (.iload 4, 2) := by decide +kernel
theorem dL_law_320 : decode cL_law 320 = .ok (.iconst 1, 1) := by decide +kernel
theorem dL_law_321 : decode cL_law 321 = .ok (.iadd, 1) := by decide +kernel
theorem dL_law_322 : decode cL_law 322 = .ok (.iaload, 1) := by decide +kernel
theorem dL_law_323 : decode cL_law 323 = .ok (.aload_n 3, 1) := by decide +kernel
theorem dL_law_324 : decode cL_law 324 = .ok (.invokestatic 98, 3) := by decide +kernel
theorem dL_law_327 : decode cL_law 327 = .ok (.istore 5, 2) := by decide +kernel
theorem dL_law_329 : decode cL_law 329 = .ok (.aload_n 2, 1) := by decide +kernel
theorem dL_law_330 : decode cL_law 330 = .ok (.aload_n 0, 1) := by decide +kernel
theorem dL_law_331 : decode cL_law 331 = .ok (.iload 4, 2) := by decide +kernel
theorem dL_law_333 : decode cL_law 333 = .ok (.iconst 1, 1) := by decide +kernel
theorem dL_law_334 : decode cL_law 334 = .ok (.iadd, 1) := by decide +kernel
theorem dL_law_335 : decode cL_law 335 = .ok (.iaload, 1) := by decide +kernel
theorem dL_law_336 : decode cL_law 336 = .ok (.invokevirtual 101, 3) := by decide +kernel
theorem dL_law_339 : decode cL_law 339 = .ok (.istore 6, 2) := by decide +kernel
theorem dL_law_341 : decode cL_law 341 = .ok (.aload_n 2, 1) := by decide +kernel
theorem dL_law_342 : decode cL_law 342 = .ok (.invokevirtual 86, 3) := by decide +kernel
theorem dL_law_345 : decode cL_law 345 = .ok (.iload 5, 2) := by decide +kernel
theorem dL_law_347 : decode cL_law 347 = .ok (.if_icmp .eq 5, 3) := by decide +kernel
theorem dL_law_350 : decode cL_law 350 = .ok (.iconst 0, 1) := by decide +kernel
theorem dL_law_351 : decode cL_law 351 = .ok (.ireturn, 1) := by decide +kernel
theorem dL_law_352 : decode cL_law 352 = .ok (.iload 5, 2) := by decide +kernel
theorem dL_law_354 : decode cL_law 354 = .ok (.ifCond .ne 15, 3) := by decide +kernel
theorem dL_law_357 : decode cL_law 357 = .ok (.aload_n 3, 1) := by decide +kernel
theorem dL_law_358 : decode cL_law 358 = .ok (.iconst 0, 1) := by decide +kernel
theorem dL_law_359 : decode cL_law 359 = .ok (.laload, 1) := by decide +kernel
theorem dL_law_360 : decode cL_law 360 = .ok (.iload 6, 2) := by decide +kernel
theorem dL_law_362 : decode cL_law 362 = .ok (.i2l, 1) := by decide +kernel
theorem dL_law_363 : decode cL_law 363 = .ok (.lcmp, 1) := by decide +kernel
theorem dL_law_364 : decode cL_law 364 = .ok (.ifCond .eq 5, 3) := by decide +kernel
theorem dL_law_367 : decode cL_law 367 = .ok (.iconst 0, 1) := by decide +kernel
theorem dL_law_368 : decode cL_law 368 = .ok (.ireturn, 1) := by decide +kernel
theorem dL_law_369 : decode cL_law 369 = .ok (.goto 836, 3) := by decide +kernel
theorem dL_law_372 : decode cL_law 372 = .ok (.aload_n 1, 1) := by decide +kernel
theorem dL_law_373 : decode cL_law 373 = .ok (.aload_n 0, 1) := by decide +kernel
theorem dL_law_374 : decode cL_law 374 = .ok (.iload 4, 2) := by decide +kernel
theorem dL_law_376 : decode cL_law 376 = .ok (.iconst 1, 1) := by decide +kernel
theorem dL_law_377 : decode cL_law 377 = .ok (.iadd, 1) := by decide +kernel
theorem dL_law_378 : decode cL_law 378 = .ok (.iaload, 1) := by decide +kernel
theorem dL_law_379 : decode cL_law 379 = .ok (.aload_n 0, 1) := by decide +kernel
theorem dL_law_380 : decode cL_law 380 = .ok (.iload 4, 2) := by decide +kernel
theorem dL_law_382 : decode cL_law 382 = .ok (.iconst 2, 1) := by decide +kernel
theorem dL_law_383 : decode cL_law 383 = .ok (.iadd, 1) := by decide +kernel
theorem dL_law_384 : decode cL_law 384 = .ok (.iaload, 1) := by decide +kernel
theorem dL_law_385 : decode cL_law 385 = .ok (.aload_n 0, 1) := by decide +kernel
theorem dL_law_386 : decode cL_law 386 = .ok (.iload 4, 2) := by decide +kernel
theorem dL_law_388 : decode cL_law 388 = .ok (.iconst 3, 1) := by decide +kernel
theorem dL_law_389 : decode cL_law 389 = .ok (.iadd, 1) := by decide +kernel
theorem dL_law_390 : decode cL_law 390 = .ok (.iaload, 1) := by decide +kernel
theorem dL_law_391 : decode cL_law 391 = .ok (.aload_n 0, 1) := by decide +kernel
theorem dL_law_392 : decode cL_law 392 = .ok (.iload 4, 2) := by decide +kernel
theorem dL_law_394 : decode cL_law 394 = .ok (.iconst 4, 1) := by decide +kernel
theorem dL_law_395 : decode cL_law 395 = .ok (.iadd, 1) := by decide +kernel
theorem dL_law_396 : decode cL_law 396 = .ok (.iaload, 1) := by decide +kernel
theorem dL_law_397 : decode cL_law 397 = .ok (.aload_n 3, 1) := by decide +kernel
theorem dL_law_398 : decode cL_law 398 = .ok (.invokestatic 102, 3) := by decide +kernel
theorem dL_law_401 : decode cL_law 401 = .ok (.istore 5, 2) := by decide +kernel
theorem dL_law_403 : decode cL_law 403 = .ok (.aload_n 2, 1) := by decide +kernel
theorem dL_law_404 : decode cL_law 404 = .ok (.aload_n 0, 1) := by decide +kernel
theorem dL_law_405 : decode cL_law 405 = .ok (.iload 4, 2) := by decide +kernel
theorem dL_law_407 : decode cL_law 407 = .ok (.iconst 1, 1) := by decide +kernel
theorem dL_law_408 : decode cL_law 408 = .ok (.iadd, 1) := by decide +kernel
theorem dL_law_409 : decode cL_law 409 = .ok (.iaload, 1) := by decide +kernel
theorem dL_law_410 : decode cL_law 410 = .ok (.aload_n 0, 1) := by decide +kernel
theorem dL_law_411 : decode cL_law 411 = .ok (.iload 4, 2) := by decide +kernel
theorem dL_law_413 : decode cL_law 413 = .ok (.iconst 2, 1) := by decide +kernel
theorem dL_law_414 : decode cL_law 414 = .ok (.iadd, 1) := by decide +kernel
theorem dL_law_415 : decode cL_law 415 = .ok (.iaload, 1) := by decide +kernel
theorem dL_law_416 : decode cL_law 416 = .ok (.aload_n 0, 1) := by decide +kernel
theorem dL_law_417 : decode cL_law 417 = .ok (.iload 4, 2) := by decide +kernel
theorem dL_law_419 : decode cL_law 419 = .ok (.iconst 3, 1) := by decide +kernel
theorem dL_law_420 : decode cL_law 420 = .ok (.iadd, 1) := by decide +kernel
theorem dL_law_421 : decode cL_law 421 = .ok (.iaload, 1) := by decide +kernel
theorem dL_law_422 : decode cL_law 422 = .ok (.aload_n 0, 1) := by decide +kernel
theorem dL_law_423 : decode cL_law 423 = .ok (.iload 4, 2) := by decide +kernel
theorem dL_law_425 : decode cL_law 425 = .ok (.iconst 4, 1) := by decide +kernel
theorem dL_law_426 : decode cL_law 426 = .ok (.iadd, 1) := by decide +kernel
theorem dL_law_427 : decode cL_law 427 = .ok (.iaload, 1) := by decide +kernel
theorem dL_law_428 : decode cL_law 428 = .ok (.invokevirtual 105, 3) := by decide +kernel
theorem dL_law_431 : decode cL_law 431 = .ok (.istore 6, 2) := by decide +kernel
theorem dL_law_433 : decode cL_law 433 = .ok (.aload_n 2, 1) := by decide +kernel
theorem dL_law_434 : decode cL_law 434 = .ok (.invokevirtual 86, 3) := by decide +kernel
theorem dL_law_437 : decode cL_law 437 = .ok (.iload 5, 2) := by decide +kernel
theorem dL_law_439 : decode cL_law 439 = .ok (.if_icmp .eq 5, 3) := by decide +kernel
theorem dL_law_442 : decode cL_law 442 = .ok (.iconst 0, 1) := by decide +kernel
theorem dL_law_443 : decode cL_law 443 = .ok (.ireturn, 1) := by decide +kernel
theorem dL_law_444 : decode cL_law 444 = .ok (.iload 5, 2) := by decide +kernel
theorem dL_law_446 : decode cL_law 446 = .ok (.ifCond .ne 15, 3) := by decide +kernel
theorem dL_law_449 : decode cL_law 449 = .ok (.aload_n 3, 1) := by decide +kernel
theorem dL_law_450 : decode cL_law 450 = .ok (.iconst 0, 1) := by decide +kernel
theorem dL_law_451 : decode cL_law 451 = .ok (.laload, 1) := by decide +kernel
theorem dL_law_452 : decode cL_law 452 = .ok (.iload 6, 2) := by decide +kernel
theorem dL_law_454 : decode cL_law 454 = .ok (.i2l, 1) := by decide +kernel
theorem dL_law_455 : decode cL_law 455 = .ok (.lcmp, 1) := by decide +kernel
theorem dL_law_456 : decode cL_law 456 = .ok (.ifCond .eq 5, 3) := by decide +kernel
theorem dL_law_459 : decode cL_law 459 = .ok (.iconst 0, 1) := by decide +kernel
theorem dL_law_460 : decode cL_law 460 = .ok (.ireturn, 1) := by decide +kernel
theorem dL_law_461 : decode cL_law 461 = .ok (.goto 744, 3) := by decide +kernel
theorem dL_law_464 : decode cL_law 464 = .ok (.aload_n 1, 1) := by decide +kernel
theorem dL_law_465 : decode cL_law 465 = .ok (.aload_n 0, 1) := by decide +kernel
theorem dL_law_466 : decode cL_law 466 = .ok (.iload 4, 2) := by decide +kernel
theorem dL_law_468 : decode cL_law 468 = .ok (.iconst 1, 1) := by decide +kernel
theorem dL_law_469 : decode cL_law 469 = .ok (.iadd, 1) := by decide +kernel
theorem dL_law_470 : decode cL_law 470 = .ok (.iaload, 1) := by decide +kernel
theorem dL_law_471 : decode cL_law 471 = .ok (.aload_n 0, 1) := by decide +kernel
theorem dL_law_472 : decode cL_law 472 = .ok (.iload 4, 2) := by decide +kernel
theorem dL_law_474 : decode cL_law 474 = .ok (.iconst 2, 1) := by decide +kernel
theorem dL_law_475 : decode cL_law 475 = .ok (.iadd, 1) := by decide +kernel
theorem dL_law_476 : decode cL_law 476 = .ok (.iaload, 1) := by decide +kernel
theorem dL_law_477 : decode cL_law 477 = .ok (.aload_n 3, 1) := by decide +kernel
theorem dL_law_478 : decode cL_law 478 = .ok (.invokestatic 106, 3) := by decide +kernel
theorem dL_law_481 : decode cL_law 481 = .ok (.istore 5, 2) := by decide +kernel
theorem dL_law_483 : decode cL_law 483 = .ok (.aload_n 2, 1) := by decide +kernel
theorem dL_law_484 : decode cL_law 484 = .ok (.aload_n 0, 1) := by decide +kernel
theorem dL_law_485 : decode cL_law 485 = .ok (.iload 4, 2) := by decide +kernel
theorem dL_law_487 : decode cL_law 487 = .ok (.iconst 1, 1) := by decide +kernel
theorem dL_law_488 : decode cL_law 488 = .ok (.iadd, 1) := by decide +kernel
theorem dL_law_489 : decode cL_law 489 = .ok (.iaload, 1) := by decide +kernel
theorem dL_law_490 : decode cL_law 490 = .ok (.aload_n 0, 1) := by decide +kernel
theorem dL_law_491 : decode cL_law 491 = .ok (.iload 4, 2) := by decide +kernel
theorem dL_law_493 : decode cL_law 493 = .ok (.iconst 2, 1) := by decide +kernel
theorem dL_law_494 : decode cL_law 494 = .ok (.iadd, 1) := by decide +kernel
theorem dL_law_495 : decode cL_law 495 = .ok (.iaload, 1) := by decide +kernel
theorem dL_law_496 : decode cL_law 496 = .ok (.invokevirtual 109, 3) := by decide +kernel
theorem dL_law_499 : decode cL_law 499 = .ok (.istore 6, 2) := by decide +kernel
theorem dL_law_501 : decode cL_law 501 = .ok (.aload_n 2, 1) := by decide +kernel
theorem dL_law_502 : decode cL_law 502 = .ok (.invokevirtual 86, 3) := by decide +kernel
theorem dL_law_505 : decode cL_law 505 = .ok (.iload 5, 2) := by decide +kernel
theorem dL_law_507 : decode cL_law 507 = .ok (.if_icmp .eq 5, 3) := by decide +kernel
theorem dL_law_510 : decode cL_law 510 = .ok (.iconst 0, 1) := by decide +kernel
theorem dL_law_511 : decode cL_law 511 = .ok (.ireturn, 1) := by decide +kernel
theorem dL_law_512 : decode cL_law 512 = .ok (.iload 5, 2) := by decide +kernel
theorem dL_law_514 : decode cL_law 514 = .ok (.ifCond .ne 15, 3) := by decide +kernel
theorem dL_law_517 : decode cL_law 517 = .ok (.aload_n 3, 1) := by decide +kernel
theorem dL_law_518 : decode cL_law 518 = .ok (.iconst 0, 1) := by decide +kernel
theorem dL_law_519 : decode cL_law 519 = .ok (.laload, 1) := by decide +kernel
theorem dL_law_520 : decode cL_law 520 = .ok (.iload 6, 2) := by decide +kernel
theorem dL_law_522 : decode cL_law 522 = .ok (.i2l, 1) := by decide +kernel
theorem dL_law_523 : decode cL_law 523 = .ok (.lcmp, 1) := by decide +kernel
theorem dL_law_524 : decode cL_law 524 = .ok (.ifCond .eq 5, 3) := by decide +kernel
theorem dL_law_527 : decode cL_law 527 = .ok (.iconst 0, 1) := by decide +kernel
theorem dL_law_528 : decode cL_law 528 = .ok (.ireturn, 1) := by decide +kernel
theorem dL_law_529 : decode cL_law 529 = .ok (.goto 676, 3) := by decide +kernel
theorem dL_law_532 : decode cL_law 532 = .ok (.aload_n 1, 1) := by decide +kernel
theorem dL_law_533 : decode cL_law 533 = .ok (.aload_n 0, 1) := by decide +kernel
theorem dL_law_534 : decode cL_law 534 = .ok (.iload 4, 2) := by decide +kernel
theorem dL_law_536 : decode cL_law 536 = .ok (.iconst 1, 1) := by decide +kernel
theorem dL_law_537 : decode cL_law 537 = .ok (.iadd, 1) := by decide +kernel
theorem dL_law_538 : decode cL_law 538 = .ok (.iaload, 1) := by decide +kernel
theorem dL_law_539 : decode cL_law 539 = .ok (.aload_n 0, 1) := by decide +kernel
theorem dL_law_540 : decode cL_law 540 = .ok (.iload 4, 2) := by decide +kernel
theorem dL_law_542 : decode cL_law 542 = .ok (.iconst 2, 1) := by decide +kernel
theorem dL_law_543 : decode cL_law 543 = .ok (.iadd, 1) := by decide +kernel
theorem dL_law_544 : decode cL_law 544 = .ok (.iaload, 1) := by decide +kernel
theorem dL_law_545 : decode cL_law 545 = .ok (.ifCond .eq 7, 3) := by decide +kernel
theorem dL_law_548 : decode cL_law 548 = .ok (.iconst 1, 1) := by decide +kernel
theorem dL_law_549 : decode cL_law 549 = .ok (.goto 4, 3) := by decide +kernel
theorem dL_law_552 : decode cL_law 552 = .ok (.iconst 0, 1) := by decide +kernel
theorem dL_law_553 : decode cL_law 553 = .ok (.aload_n 3, 1) := by decide +kernel
theorem dL_law_554 : decode cL_law 554 = .ok (.invokestatic 110, 3) := by decide +kernel
theorem dL_law_557 : decode cL_law 557 = .ok (.istore 5, 2) := by decide +kernel
theorem dL_law_559 : decode cL_law 559 = .ok (.aload_n 2, 1) := by decide +kernel
theorem dL_law_560 : decode cL_law 560 = .ok (.aload_n 0, 1) := by decide +kernel
