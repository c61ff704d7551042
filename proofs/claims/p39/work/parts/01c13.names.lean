set_option maxRecDepth 20000 in
theorem ggL_plays_L_sorts : GoodIn wsL_plays wsL_sorts := goodIn_ca (goodIn_ca (goodIn_ca (goodIn_ca (goodIn_r _ [720, 721, 166, 149, 167, 722, 723, 81, 724, 333, 334, 335, 3, 336, 337, 338, 339, 340, 341, 342, 343, 15, 714, 715, 716, 717, 607, 608, 628, 13, 648, 649, 650, 665, 586, 587, 12, 588, 537, 43, 660, 593, 594, 595, 44, 79, 80, 82, 83, 725, 726, 727, 728, 729, 730, 731, 732, 733, 477, 478, 479, 480, 481, 347, 482, 483, 484, 485, 486, 382, 383, 34, 487, 488, 396, 397, 398, 33, 399, 400, 67, 66, 401, 402, 403, 404, 29, 405, 406, 407, 408, 409, 410, 411, 391, 60, 412, 413, 414, 415, 416, 417, 418, 419, 420, 421, 422, 423, 424, 425, 426, 427, 428, 429, 430, 431, 432, 433, 434, 435, 436, 437, 438, 202, 203, 189, 204, 205, 206, 207, 208, 209, 210, 211, 439, 355, 356, 357, 358, 359, 360, 361, 362, 363, 230, 364, 365, 366, 367, 191, 368, 369, 194, 370, 371, 372, 111, 373, 374, 375, 376, 184, 185, 186, 377, 323, 324, 325, 180, 199, 200, 440, 441, 442, 443, 444, 445, 446, 447, 448, 449, 450, 451, 452, 453, 454, 455, 456, 457, 458, 459, 460, 461, 462, 463, 464, 465, 466, 467, 468, 469, 470, 471, 472, 473, 474, 475, 476, 489, 490, 491, 492, 493, 494, 495, 496, 497, 498, 499, 500, 501, 502, 503, 504, 505, 38, 506, 507, 508, 69, 509, 510, 74, 511, 512, 513, 514, 515, 516, 517, 518, 519, 520, 521, 522, 523, 524, 525, 37, 526, 78, 527, 528, 529, 530, 531, 532, 533, 534, 535, 536, 538, 539, 540, 20, 541, 542, 543, 544, 545, 546, 48, 547, 169, 170, 171, 548, 549, 550, 551, 552, 553, 554, 555, 556, 557, 558, 559, 560, 26, 561, 562, 563, 25, 564, 565, 566, 567, 568, 569, 53, 570, 571, 572, 573, 574, 575, 54, 576, 577, 578, 579, 580, 581, 582, 583, 55, 584, 585, 589, 590, 591, 592, 596, 597, 598, 599, 600, 601, 602, 603, 604, 605, 606, 609, 610, 611, 612, 613, 614, 615, 616, 617, 618, 619, 620, 621, 622, 623, 624, 625, 626, 627, 629, 630, 631, 632, 633, 634, 635, 636, 637, 638, 639, 640, 641, 642, 643, 644, 645, 646, 647, 651, 652, 653, 654, 655, 656, 657, 658, 659, 661, 662, 663, 664, 666, 667, 668, 669, 16, 18, 670, 671, 672, 673, 674, 675, 148, 150, 676, 677, 678, 679, 680, 681, 682, 683, 684, 685, 686, 687, 688, 689, 690, 691, 692, 693, 694, 695, 696, 697, 698, 699, 700, 701, 702, 703, 704, 705, 706, 707, 708, 709, 710, 711, 712, 713, 734, 735, 736, 737, 738, 739, 740, 741, 742, 743, 744, 745, 746, 747, 748, 749, 750, 751, 752, 753, 754, 755, 756, 757, 813, 814, 800, 801, 802, 803, 804, 805, 806, 807, 808, 809, 810, 811, 812, 823, 824, 825, 819, 820, 821, 822, 827, 828, 829, 830, 831, 832, 837, 838, 839, 840, 826, 815, 816, 817, 818] (by decide +kernel) (by decide +kernel)) (goodIn_sub (fun _ h => List.mem_cons_of_mem _ (List.mem_append_left _ (List.mem_append_left _ (List.mem_append_left _ (List.mem_append_right _ h))))) (by decide +kernel))) (goodIn_sub (fun _ h => List.mem_cons_of_mem _ (List.mem_append_left _ (List.mem_append_right _ h))) (by decide +kernel))) (goodIn_sub (fun _ h => List.mem_cons_of_mem _ (List.mem_append_left _ (List.mem_append_left _ (List.mem_append_right _ h)))) (by decide +kernel))) (goodIn_sub (fun _ h => List.mem_cons_of_mem _ (List.mem_append_right _ h)) (by decide +kernel))
set_option maxRecDepth 20000 in
theorem gL_plays_L_sorts : GoodIn wsL_plays (va_wsS RL 222 yL_sorts wsL_sorts) := goodIn_app (goodIn_of _ (by decide +kernel)) ggL_plays_L_sorts
set_option maxRecDepth 20000 in
theorem ggL_plays_L_moves : GoodIn wsL_plays wsL_moves := goodIn_ca (goodIn_ca (goodIn_ca (goodIn_ca (goodIn_r _ [760, 722, 723, 81, 724, 333, 334, 335, 3, 336, 337, 338, 339, 340, 341, 342, 343, 15, 714, 715, 716, 717, 607, 608, 628, 13, 648, 649, 650, 665, 586, 587, 12, 588, 537, 43, 660, 593, 594, 595, 44, 79, 80, 82, 83, 477, 478, 479, 480, 481, 347, 482, 483, 484, 485, 486, 382, 383, 34, 487, 488, 396, 397, 398, 33, 399, 400, 67, 66, 401, 402, 403, 404, 29, 405, 406, 407, 408, 409, 410, 411, 391, 60, 412, 413, 414, 415, 416, 417, 418, 419, 420, 421, 422, 423, 424, 425, 426, 427, 428, 429, 430, 431, 432, 433, 434, 435, 436, 437, 438, 202, 203, 189, 204, 205, 206, 207, 208, 209, 210, 211, 439, 355, 356, 357, 358, 359, 360, 361, 362, 363, 230, 364, 365, 366, 367, 191, 368, 369, 194, 370, 371, 372, 111, 373, 374, 375, 376, 184, 185, 186, 377, 323, 324, 325, 180, 199, 200, 440, 441, 442, 443, 444, 445, 446, 447, 448, 449, 450, 451, 452, 453, 454, 455, 456, 457, 458, 459, 460, 461, 462, 463, 464, 465, 466, 467, 468, 469, 470, 471, 472, 473, 474, 475, 476, 489, 490, 491, 492, 493, 494, 495, 496, 497, 498, 499, 500, 501, 502, 503, 504, 505, 38, 506, 507, 508, 69, 509, 510, 74, 511, 512, 513, 514, 515, 516, 517, 518, 519, 520, 521, 522, 523, 524, 525, 37, 526, 78, 527, 528, 529, 530, 531, 532, 533, 534, 535, 536, 538, 539, 540, 20, 541, 542, 543, 544, 545, 546, 48, 547, 169, 170, 171, 548, 549, 550, 551, 552, 553, 554, 555, 556, 557, 558, 559, 560, 26, 561, 562, 563, 25, 564, 565, 566, 567, 568, 569, 53, 570, 571, 572, 573, 574, 575, 166, 149, 167, 54, 576, 577, 578, 579, 580, 581, 582, 583, 55, 584, 585, 589, 590, 591, 592, 596, 597, 598, 599, 600, 601, 602, 603, 604, 605, 606, 609, 610, 611, 612, 613, 614, 615, 616, 617, 618, 619, 620, 621, 622, 623, 624, 625, 626, 627, 629, 630, 631, 632, 633, 634, 635, 636, 637, 638, 639, 640, 641, 642, 643, 644, 645, 646, 647, 651, 652, 653, 654, 655, 656, 657, 658, 659, 661, 662, 663, 664, 666, 667, 668, 669, 16, 18, 670, 671, 672, 673, 674, 675, 148, 150, 676, 677, 678, 679, 680, 681, 682, 683, 684, 685, 686, 687, 688, 689, 690, 691, 692, 693, 694, 695, 696, 697, 698, 699, 700, 701, 702, 703, 704, 705, 706, 707, 708, 709, 710, 711, 712, 713, 725, 726, 727, 734, 735, 736, 813, 814, 800, 801, 802, 803, 804, 805, 806, 807, 808, 809, 810, 811, 812, 823, 824, 825, 819, 820, 821, 822, 827, 828, 829, 830, 831, 832, 837, 838, 839, 840, 826, 815, 816, 817, 818] (by decide +kernel) (by decide +kernel)) (goodIn_sub (fun _ h => List.mem_cons_of_mem _ (List.mem_append_left _ (List.mem_append_left _ (List.mem_append_left _ (List.mem_append_right _ h))))) (by decide +kernel))) (goodIn_sub (fun _ h => List.mem_cons_of_mem _ (List.mem_append_left _ (List.mem_append_right _ h))) (by decide +kernel))) (goodIn_sub (fun _ h => List.mem_cons_of_mem _ (List.mem_append_left _ (List.mem_append_left _ (List.mem_append_right _ h)))) (by decide +kernel))) (goodIn_sub (fun _ h => List.mem_cons_of_mem _ (List.mem_append_right _ h)) (by decide +kernel))
set_option maxRecDepth 20000 in
theorem gL_plays_L_moves : GoodIn wsL_plays (va_wsS RL 226 yL_moves wsL_moves) := goodIn_app (goodIn_of _ (by decide +kernel)) ggL_plays_L_moves
set_option maxRecDepth 20000 in
theorem ggL_plays_L_sortsAll : GoodIn wsL_plays wsL_sortsAll := goodIn_ca (goodIn_ca (goodIn_r _ [763, 42, 722, 723, 81, 724, 333, 334, 335, 3, 336, 337, 338, 339, 340, 341, 342, 343, 15, 714, 715, 716, 717, 607, 608, 628, 13, 648, 649, 650, 665, 586, 587, 12, 588, 537, 43, 660, 593, 594, 595, 44, 725, 726, 727, 728, 729, 730, 731, 732, 733, 764, 765, 766, 767, 26, 552, 561, 562, 563, 25, 564, 565, 566, 567, 568, 569, 53, 570, 571, 572, 573, 574, 575, 166, 149, 167, 54, 576, 577, 578, 579, 580, 581, 582, 583, 55, 584, 585, 589, 590, 591, 517, 518, 519, 520, 592, 596, 597, 598, 599, 813, 814, 800, 801, 802, 803, 804, 805, 806, 807, 808, 809, 810, 811, 812, 815, 816, 817, 818] (by decide +kernel) (by decide +kernel)) (goodIn_sub (fun _ h => List.mem_cons_of_mem _ (List.mem_append_left _ (List.mem_append_left _ (List.mem_append_left _ (List.mem_append_right _ h))))) (by decide +kernel))) (goodIn_sub (fun _ h => List.mem_cons_of_mem _ (List.mem_append_left _ (List.mem_append_right _ h))) (by decide +kernel))
set_option maxRecDepth 20000 in
theorem gL_plays_L_sortsAll : GoodIn wsL_plays (va_wsS RL 230 yL_sortsAll wsL_sortsAll) := goodIn_app (goodIn_of _ (by decide +kernel)) ggL_plays_L_sortsAll
set_option maxRecDepth 20000 in
theorem ggL_plays_L_isBoth : GoodIn wsL_plays wsL_isBoth := goodIn_ca (goodIn_ca (goodIn_ca (goodIn_ca (goodIn_r _ [770, 722, 723, 81, 724, 333, 334, 335, 3, 336, 337, 338, 339, 340, 341, 342, 343, 15, 714, 715, 716, 717, 607, 608, 628, 13, 648, 649, 650, 665, 586, 587, 12, 588, 537, 43, 660, 593, 594, 595, 44, 477, 478, 479, 480, 481, 347, 482, 483, 484, 485, 486, 382, 383, 34, 487, 488, 396, 397, 398, 33, 399, 400, 67, 66, 401, 402, 403, 404, 29, 405, 406, 407, 408, 409, 410, 411, 391, 60, 412, 413, 414, 415, 416, 417, 418, 419, 420, 421, 422, 423, 424, 425, 426, 427, 428, 429, 430, 431, 432, 433, 434, 435, 436, 437, 438, 202, 203, 189, 204, 205, 206, 207, 208, 209, 210, 211, 439, 355, 356, 357, 358, 359, 360, 361, 362, 363, 230, 364, 365, 366, 367, 191, 368, 369, 194, 370, 371, 372, 111, 373, 374, 375, 376, 184, 185, 186, 377, 323, 324, 325, 180, 199, 200, 440, 441, 442, 443, 444, 445, 446, 447, 448, 449, 450, 451, 452, 453, 454, 455, 456, 457, 458, 459, 460, 461, 462, 463, 464, 465, 466, 467, 468, 469, 470, 471, 472, 473, 474, 475, 476, 489, 490, 491, 492, 493, 494, 495, 496, 497, 498, 499, 500, 501, 502, 503, 504, 505, 38, 506, 507, 508, 69, 509, 510, 74, 511, 512, 513, 514, 515, 516, 517, 518, 519, 520, 521, 522, 523, 524, 525, 37, 526, 78, 527, 528, 529, 530, 531, 532, 533, 534, 535, 536, 538, 539, 540, 20, 541, 542, 543, 544, 545, 546, 48, 547, 169, 170, 171, 548, 549, 550, 551, 552, 553, 554, 555, 556, 557, 558, 559, 560, 26, 561, 562, 563, 25, 564, 565, 566, 567, 568, 569, 53, 570, 571, 572, 573, 574, 575, 166, 149, 167, 54, 576, 577, 578, 579, 580, 581, 582, 583, 55, 584, 585, 589, 590, 591, 592, 596, 597, 598, 599, 600, 601, 602, 603, 604, 605, 606, 609, 610, 611, 612, 613, 614, 615, 616, 617, 618, 619, 620, 621, 622, 623, 624, 625, 626, 627, 629, 630, 631, 632, 633, 634, 635, 636, 637, 638, 639, 640, 641, 642, 643, 644, 645, 646, 647, 651, 652, 653, 654, 655, 656, 657, 658, 659, 661, 662, 663, 664, 666, 667, 668, 669, 16, 18, 670, 671, 672, 673, 674, 675, 148, 150, 676, 677, 678, 679, 680, 681, 682, 683, 684, 685, 686, 687, 688, 689, 690, 691, 692, 693, 694, 695, 696, 697, 698, 699, 700, 701, 702, 703, 704, 705, 706, 707, 708, 709, 710, 711, 712, 713, 728, 729, 730, 731, 732, 733, 725, 726, 727, 771, 772, 773, 774, 775, 776, 777, 813, 814, 800, 801, 802, 803, 804, 805, 806, 807, 808, 809, 810, 811, 812, 823, 824, 825, 819, 820, 821, 822, 827, 828, 829, 830, 831, 832, 837, 838, 839, 840, 826, 815, 816, 817, 818] (by decide +kernel) (by decide +kernel)) (goodIn_sub (fun _ h => List.mem_cons_of_mem _ (List.mem_append_left _ (List.mem_append_left _ (List.mem_append_left _ (List.mem_append_right _ h))))) (by decide +kernel))) (goodIn_sub (fun _ h => List.mem_cons_of_mem _ (List.mem_append_left _ (List.mem_append_right _ h))) (by decide +kernel))) (goodIn_sub (fun _ h => List.mem_cons_of_mem _ (List.mem_append_left _ (List.mem_append_left _ (List.mem_append_right _ h)))) (by decide +kernel))) (goodIn_sub (fun _ h => List.mem_cons_of_mem _ (List.mem_append_right _ h)) (by decide +kernel))
set_option maxRecDepth 20000 in
theorem gL_plays_L_isBoth : GoodIn wsL_plays (va_wsS RL 234 yL_isBoth wsL_isBoth) := goodIn_app (goodIn_of _ (by decide +kernel)) ggL_plays_L_isBoth
set_option maxRecDepth 20000 in
theorem ggL_plays_L_comes : GoodIn wsL_plays wsL_comes := goodIn_ca (goodIn_ca (goodIn_ca (goodIn_ca (goodIn_r _ [780, 95, 96, 81, 97, 79, 80, 82, 83, 477, 478, 479, 480, 481, 347, 482, 483, 484, 485, 3, 486, 382, 383, 34, 487, 488, 338, 339, 340, 341, 342, 343, 15, 396, 397, 398, 33, 399, 400, 67, 66, 401, 402, 403, 404, 29, 405, 406, 407, 408, 409, 410, 411, 391, 60, 412, 413, 414, 415, 416, 417, 418, 419, 420, 421, 422, 423, 424, 425, 426, 427, 428, 429, 430, 431, 432, 433, 434, 435, 436, 437, 438, 202, 203, 189, 204, 205, 206, 207, 208, 209, 210, 211, 439, 355, 356, 357, 358, 359, 360, 361, 362, 363, 230, 364, 365, 366, 367, 191, 368, 369, 194, 370, 371, 372, 111, 373, 374, 375, 376, 184, 185, 186, 377, 323, 324, 325, 180, 199, 200, 440, 441, 442, 443, 444, 445, 446, 447, 448, 449, 450, 451, 452, 453, 454, 455, 456, 457, 458, 459, 460, 461, 462, 463, 464, 465, 466, 467, 468, 469, 470, 471, 472, 473, 474, 475, 476, 489, 490, 491, 492, 493, 494, 495, 337, 496, 497, 498, 499, 13, 500, 501, 502, 503, 504, 505, 38, 506, 507, 508, 69, 509, 510, 74, 511, 512, 513, 514, 515, 516, 517, 518, 519, 520, 521, 522, 523, 524, 525, 37, 526, 78, 527, 528, 529, 530, 531, 532, 533, 534, 535, 12, 536, 537, 43, 44, 538, 539, 540, 20, 541, 542, 543, 544, 545, 546, 48, 547, 169, 170, 171, 548, 549, 550, 551, 552, 553, 554, 555, 556, 557, 558, 559, 560, 26, 561, 562, 563, 25, 564, 565, 566, 567, 568, 569, 53, 570, 571, 572, 573, 574, 575, 166, 149, 167, 54, 576, 577, 578, 579, 580, 581, 582, 583, 55, 584, 585, 586, 587, 588, 589, 590, 591, 592, 593, 594, 595, 596, 597, 598, 599, 600, 601, 602, 603, 604, 605, 606, 607, 608, 609, 610, 611, 612, 613, 614, 615, 616, 617, 618, 619, 620, 621, 622, 623, 624, 625, 626, 627, 628, 629, 630, 631, 632, 633, 634, 635, 636, 637, 638, 639, 640, 641, 642, 643, 644, 645, 646, 647, 648, 649, 650, 651, 652, 653, 654, 655, 656, 657, 658, 659, 660, 661, 662, 663, 664, 665, 666, 667, 668, 669, 16, 18, 670, 671, 672, 673, 674, 675, 148, 150, 676, 677, 678, 679, 680, 681, 682, 683, 684, 685, 686, 687, 688, 689, 690, 691, 692, 693, 694, 695, 696, 697, 698, 699, 700, 701, 702, 703, 704, 705, 706, 707, 708, 709, 710, 711, 712, 713, 714, 715, 716, 717, 333, 334, 335, 336, 737, 738, 739, 740, 741, 742, 743, 744, 781, 782, 783, 784, 785, 786, 787, 788, 789, 790, 791, 800, 801, 802, 803, 804, 805, 806, 807, 808, 809, 823, 824, 825, 819, 820, 821, 822, 827, 828, 829, 830, 831, 832, 837, 838, 839, 840, 813, 814, 810, 811, 812, 826, 815, 816, 817, 818] (by decide +kernel) (by decide +kernel)) (goodIn_sub (fun _ h => List.mem_cons_of_mem _ (List.mem_append_left _ (List.mem_append_left _ (List.mem_append_right _ h)))) (by decide +kernel))) (goodIn_sub (fun _ h => List.mem_cons_of_mem _ (List.mem_append_left _ (List.mem_append_left _ (List.mem_append_left _ (List.mem_append_right _ h))))) (by decide +kernel))) (goodIn_sub (fun _ h => List.mem_cons_of_mem _ (List.mem_append_left _ (List.mem_append_right _ h))) (by decide +kernel))) (goodIn_sub (fun _ h => List.mem_cons_of_mem _ (List.mem_append_right _ h)) (by decide +kernel))
set_option maxRecDepth 20000 in
theorem gL_plays_L_comes : GoodIn wsL_plays (va_wsS RL 238 yL_comes wsL_comes) := goodIn_app (goodIn_of _ (by decide +kernel)) ggL_plays_L_comes
set_option maxRecDepth 20000 in
theorem ggL_plays_L_done : GoodIn wsL_plays wsL_done := goodIn_ca (goodIn_ca (goodIn_ca (goodIn_ca (goodIn_r _ [479, 480, 481, 347, 482, 483, 484, 485, 3, 486, 382, 383, 34, 487, 488, 338, 339, 340, 341, 342, 343, 15, 396, 397, 398, 33, 399, 400, 67, 66, 401, 402, 403, 404, 29, 405, 406, 407, 408, 409, 410, 411, 391, 60, 412, 413, 414, 415, 416, 417, 418, 419, 420, 421, 422, 423, 424, 425, 426, 427, 428, 429, 430, 431, 432, 433, 434, 435, 436, 437, 438, 202, 203, 189, 204, 205, 206, 207, 208, 209, 210, 211, 439, 355, 356, 357, 358, 359, 360, 361, 362, 363, 230, 364, 365, 366, 367, 191, 368, 369, 194, 370, 371, 372, 111, 373, 374, 375, 376, 184, 185, 186, 377, 323, 324, 325, 180, 199, 200, 440, 441, 442, 443, 444, 445, 446, 447, 448, 449, 450, 451, 452, 453, 454, 455, 456, 457, 458, 459, 460, 461, 462, 463, 464, 465, 466, 467, 468, 469, 470, 471, 472, 473, 474, 475, 476, 489, 490, 491, 492, 493, 494, 495, 337, 496, 497, 498, 499, 13, 500, 501, 502, 503, 504, 505, 38, 506, 507, 508, 69, 509, 510, 74, 511, 512, 513, 514, 515, 516, 517, 518, 519, 520, 521, 522, 523, 524, 525, 37, 526, 78, 527, 528, 529, 530, 531, 532, 533, 534, 535, 12, 536, 537, 43, 44, 538, 539, 540, 20, 541, 542, 543, 544, 545, 546, 48, 547, 169, 170, 171, 548, 549, 550, 551, 552, 553, 554, 555, 556, 557, 558, 559, 560, 26, 561, 562, 563, 25, 564, 565, 566, 567, 568, 569, 53, 570, 571, 572, 573, 574, 575, 166, 149, 167, 54, 576, 577, 578, 579, 580, 581, 582, 583, 55, 584, 585, 586, 587, 588, 589, 590, 591, 592, 593, 594, 595, 596, 597, 598, 599, 600, 601, 602, 603, 604, 605, 606, 607, 608, 609, 610, 611, 612, 613, 614, 615, 616, 617, 618, 619, 620, 621, 622, 623, 624, 625, 626, 627, 628, 629, 630, 631, 632, 633, 634, 635, 636, 637, 638, 639, 640, 641, 642, 643, 644, 645, 646, 647, 648, 649, 650, 651, 652, 653, 654, 655, 656, 657, 658, 659, 660, 661, 662, 663, 664, 665, 666, 667, 668, 669, 16, 18, 670, 671, 672, 673, 674, 675, 148, 150, 676, 677, 678, 679, 680, 681, 682, 683, 684, 685, 686, 687, 688, 689, 690, 691, 692, 693, 694, 695, 696, 697, 698, 699, 700, 701, 702, 703, 704, 705, 706, 707, 708, 709, 710, 711, 712, 713, 714, 715, 716, 717, 333, 334, 335, 336, 800, 801, 802, 803, 804, 805, 806, 807, 808, 809, 823, 824, 825, 819, 820, 821, 822, 827, 828, 829, 830, 831, 832, 837, 838, 839, 840, 813, 814, 810, 811, 812, 826, 815, 816, 817, 818] (by decide +kernel) (by decide +kernel)) (goodIn_sub (fun _ h => List.mem_cons_of_mem _ (List.mem_append_left _ (List.mem_append_left _ (List.mem_append_right _ h)))) (by decide +kernel))) (goodIn_sub (fun _ h => List.mem_cons_of_mem _ (List.mem_append_left _ (List.mem_append_left _ (List.mem_append_left _ (List.mem_append_right _ h))))) (by decide +kernel))) (goodIn_sub (fun _ h => List.mem_cons_of_mem _ (List.mem_append_left _ (List.mem_append_right _ h))) (by decide +kernel))) (goodIn_sub (fun _ h => List.mem_cons_of_mem _ (List.mem_append_right _ h)) (by decide +kernel))
set_option maxRecDepth 20000 in
theorem gL_plays_L_done : GoodIn wsL_plays (va_wsS RL 170 yL_done wsL_done) := goodIn_app (goodIn_of _ (by decide +kernel)) ggL_plays_L_done
set_option maxRecDepth 20000 in
theorem ggL_plays_X10_count : GoodIn wsL_plays wsX10_count := goodIn_ca (goodIn_r _ [336, 337, 338, 339, 340, 3, 341, 342, 343, 15, 813, 814, 800, 801, 802, 803, 804, 805, 806, 807, 808, 809] (by decide +kernel) (by decide +kernel)) (goodIn_sub (fun _ h => List.mem_cons_of_mem _ (List.mem_append_left _ (List.mem_append_left _ (List.mem_append_left _ (List.mem_append_right _ h))))) (by decide +kernel))
set_option maxRecDepth 20000 in
theorem gL_plays_X10_count : GoodIn wsL_plays (wsV RL 136 RX10 yX10_count wsX10_count) := goodIn_app (goodIn_of _ (by decide +kernel)) ggL_plays_X10_count
set_option maxRecDepth 20000 in
theorem ggL_plays_X10_errors : GoodIn wsL_plays wsX10_errors := goodIn_r _ [795, 15, 796, 797, 798, 3, 799, 337, 21, 552, 618, 22, 623, 670, 671, 672, 20, 673, 542, 674, 166, 149, 167, 675, 148, 150, 48, 547, 169, 170, 171, 557, 558, 559, 560, 26, 561, 562, 563, 25, 564, 565, 566, 567, 568, 569, 53, 570, 571, 572, 573, 574, 575, 54, 576, 577, 578, 579, 580, 581, 582, 583, 55, 584, 585, 586, 587, 12, 588, 537, 43, 589, 590, 591, 517, 518, 519, 520, 592, 593, 594, 595, 44, 596, 597, 598, 599, 684, 685, 686, 687, 688, 689, 690, 691, 692, 693, 694, 695, 696, 697, 698, 699, 13, 628, 665, 800, 801, 802, 803, 804, 805, 806, 807, 808, 809, 813, 814, 815, 816, 817, 818, 810, 811, 812] (by decide +kernel) (by decide +kernel)
set_option maxRecDepth 20000 in
theorem gL_plays_X10_errors : GoodIn wsL_plays (wsV RL 241 RX10 yX10_errors wsX10_errors) := goodIn_app (goodIn_of _ (by decide +kernel)) ggL_plays_X10_errors
theorem dL_plays_0 : decode cL_plays 0 = .ok (.new 59, 3) := by decide +kernel
theorem dL_plays_3 : decode cL_plays 3 = .ok (.dup, 1) := by decide +kernel
theorem dL_plays_4 : decode cL_plays 4 = .ok (.invokespecial 214, 3) := by decide +kernel
theorem dL_plays_7 : decode cL_plays 7 = .ok (.astore 5, 2) := by decide +kernel
theorem dL_plays_9 : decode cL_plays 9 = .ok (.aload 5, 2) := by decide +kernel
theorem dL_plays_11 : decode cL_plays 11 = .ok (.aload_n 0, 1) := by decide +kernel
theorem dL_plays_12 : decode cL_plays 12 = .ok (.invokestatic 8, 3) := by decide +kernel
theorem dL_plays_15 : decode cL_plays 15 = .ok (.invokevirtual 215, 3) := by decide +kernel
theorem dL_plays_18 : decode cL_plays 18 = .ok (.iconst 1, 1) := by decide +kernel
theorem dL_plays_19 : decode cL_plays 19 = .ok (.if_icmp .ne 7, 3) := by decide +kernel
theorem dL_plays_22 : decode cL_plays 22 = .ok (.iconst 1, 1) := by decide +kernel
theorem dL_plays_23 : decode cL_plays 23 = .ok (.goto 4, 3) := by decide +kernel
theorem dL_plays_26 : decode cL_plays 26 = .ok (.iconst 0, 1) := by decide +kernel
theorem dL_plays_27 : decode cL_plays 27 = .ok (.istore 6, 2) := by decide +kernel
theorem dL_plays_29 : decode cL_plays 29 = .ok (.iconst 0, 1) := by decide +kernel
theorem dL_plays_30 : decode cL_plays 30 = .ok (.istore 7, 2) := by decide +kernel
theorem dL_plays_32 : decode cL_plays 32 = .ok (.iload 7, 2) := by decide +kernel
theorem dL_plays_34 : decode cL_plays 34 = .ok (.iconst 3, 1) := by decide +kernel
theorem dL_plays_35 : decode cL_plays 35 = .ok (.if_icmp .ge 24, 3) := by decide +kernel
theorem dL_plays_38 : decode cL_plays 38 = .ok (.iload 6, 2) := by decide +kernel
theorem dL_plays_40 : decode cL_plays 40 = .ok (.ifCond .eq 19, 3) := by decide +kernel
theorem dL_plays_43 : decode cL_plays 43 = .ok (.aload 5, 2) := by decide +kernel
theorem dL_plays_45 : decode cL_plays 45 = .ok (.aload_n 0, 1) := by decide +kernel
theorem dL_plays_46 : decode cL_plays 46 = .ok (.iload 7, 2) := by decide +kernel
theorem dL_plays_48 : decode cL_plays 48 = .ok (.invokestatic 218, 3) := by decide +kernel
theorem dL_plays_51 : decode cL_plays 51 = .ok (.istore 6, 2) := by decide +kernel
theorem dL_plays_53 : decode cL_plays 53 = .ok (.iinc 7 1, 3) := by decide +kernel
theorem dL_plays_56 : decode cL_plays 56 = .ok (.goto (-24), 3) := by decide +kernel
theorem dL_plays_59 : decode cL_plays 59 = .ok (.iconst 0, 1) := by decide +kernel
theorem dL_plays_60 : decode cL_plays 60 = .ok (.istore 7, 2) := by decide +kernel
theorem dL_plays_62 : decode cL_plays 62 = .ok (.iload 7, 2) := by decide +kernel
theorem dL_plays_64 : decode cL_plays 64 = .ok (.bipush 18, 2) := by decide +kernel
theorem dL_plays_66 : decode cL_plays 66 = .ok (.if_icmp .ge 232, 3) := by decide +kernel
theorem dL_plays_69 : decode cL_plays 69 = .ok (.iload 6, 2) := by decide +kernel
theorem dL_plays_71 : decode cL_plays 71 = .ok (.ifCond .eq 227, 3) := by decide +kernel
theorem dL_plays_74 : decode cL_plays 74 = .ok (.aload_n 0, 1) := by decide +kernel
theorem dL_plays_75 : decode cL_plays 75 = .ok (.invokestatic 8, 3) := by decide +kernel
theorem dL_plays_78 : decode cL_plays 78 = .ok (.iconst 4, 1) := by decide +kernel
theorem dL_plays_79 : decode cL_plays 79 = .ok (.irem, 1) := by decide +kernel
theorem dL_plays_80 : decode cL_plays 80 = .ok (.istore 8, 2) := by decide +kernel
theorem dL_plays_82 : decode cL_plays 82 = .ok (.aload_n 0, 1) := by decide +kernel
theorem dL_plays_83 : decode cL_plays 83 = .ok (.invokestatic 8, 3) := by decide +kernel
theorem dL_plays_86 : decode cL_plays 86 = .ok (.bipush 17, 2) := by decide +kernel
theorem dL_plays_88 : decode cL_plays 88 = .ok (.irem, 1) := by decide +kernel
theorem dL_plays_89 : decode cL_plays 89 = .ok (.istore 9, 2) := by decide +kernel
theorem dL_plays_91 : decode cL_plays 91 = .ok (.iload 9, 2) := by decide +kernel
theorem dL_plays_93 : decode cL_plays 93 = .ok (.iconst 1, 1) := by decide +kernel
theorem dL_plays_94 : decode cL_plays 94 = .ok (.if_icmp .lt 29, 3) := by decide +kernel
theorem dL_plays_97 : decode cL_plays 97 = .ok (.iload 9, 2) := by decide +kernel
theorem dL_plays_99 : decode cL_plays 99 = .ok (.iconst 5, 1) := by decide +kernel
theorem dL_plays_100 : decode cL_plays 100 = .ok (.if_icmp .gt 23, 3) := by decide +kernel
theorem dL_plays_103 : decode cL_plays 103 = .ok (.aload 5, 2) := by decide +kernel
theorem dL_plays_105 : decode cL_plays 105 = .ok (.aload_n 0, 1) := by decide +kernel
theorem dL_plays_106 : decode cL_plays 106 = .ok (.iload 8, 2) := by decide +kernel
theorem dL_plays_108 : decode cL_plays 108 = .ok (.iload 9, 2) := by decide +kernel
theorem dL_plays_110 : decode cL_plays 110 = .ok (.aload_n 1, 1) := by decide +kernel
theorem dL_plays_111 : decode cL_plays 111 = .ok (.aload_n 2, 1) := by decide +kernel
theorem dL_plays_112 : decode cL_plays 112 = .ok (.aload_n 3, 1) := by decide +kernel
theorem dL_plays_113 : decode cL_plays 113 = .ok (.aload 4, 2) := by decide +kernel
theorem dL_plays_115 : decode cL_plays 115 = .ok (.invokestatic 222, 3) := by decide +kernel
theorem dL_plays_118 : decode cL_plays 118 = .ok (.istore 6, 2) := by decide +kernel
theorem dL_plays_120 : decode cL_plays 120 = .ok (.goto 172, 3) := by decide +kernel
theorem dL_plays_123 : decode cL_plays 123 = .ok (.iload 9, 2) := by decide +kernel
theorem dL_plays_125 : decode cL_plays 125 = .ok (.bipush 6, 2) := by decide +kernel
theorem dL_plays_127 : decode cL_plays 127 = .ok (.if_icmp .lt 28, 3) := by decide +kernel
theorem dL_plays_130 : decode cL_plays 130 = .ok (.iload 9, 2) := by decide +kernel
theorem dL_plays_132 : decode cL_plays 132 = .ok (.bipush 11, 2) := by decide +kernel
theorem dL_plays_134 : decode cL_plays 134 = .ok (.if_icmp .gt 21, 3) := by decide +kernel
theorem dL_plays_137 : decode cL_plays 137 = .ok (.aload 5, 2) := by decide +kernel
theorem dL_plays_139 : decode cL_plays 139 = .ok (.aload_n 0, 1) := by decide +kernel
theorem dL_plays_140 : decode cL_plays 140 = .ok (.iload 8, 2) := by decide +kernel
theorem dL_plays_142 : decode cL_plays 142 = .ok (.iload 9, 2) := by decide +kernel
theorem dL_plays_144 : decode cL_plays 144 = .ok (.aload_n 1, 1) := by decide +kernel
theorem dL_plays_145 : decode cL_plays 145 = .ok (.aload_n 2, 1) := by decide +kernel
theorem dL_plays_146 : decode cL_plays 146 = .ok (.aload_n 3, 1) := by decide +kernel
theorem dL_plays_147 : decode cL_plays 147 = .ok (.invokestatic 226, 3) := by decide +kernel
theorem dL_plays_150 : decode cL_plays 150 = .ok (.istore 6, 2) := by decide +kernel
theorem dL_plays_152 : decode cL_plays 152 = .ok (.goto 140, 3) := by decide +kernel
theorem dL_plays_155 : decode cL_plays 155 = .ok (.iload 9, 2) := by decide +kernel
theorem dL_plays_157 : decode cL_plays 157 = .ok (.bipush 12, 2) := by decide +kernel
theorem dL_plays_159 : decode cL_plays 159 = .ok (.if_icmp .ne 18, 3) := by decide +kernel
theorem dL_plays_162 : decode cL_plays 162 = .ok (.aload 5, 2) := by decide +kernel
theorem dL_plays_164 : decode cL_plays 164 = .ok (.aload_n 1, 1) := by decide +kernel
theorem dL_plays_165 : decode cL_plays 165 = .ok (.aload_n 2, 1) := by decide +kernel
theorem dL_plays_166 : decode cL_plays 166 = .ok (.aload_n 3, 1) := by decide +kernel
theorem dL_plays_167 : decode cL_plays 167 = .ok (.aload 4, 2) := by decide +kernel
theorem dL_plays_169 : decode cL_plays 169 = .ok (.invokestatic 230, 3) := by decide +kernel
theorem dL_plays_172 : decode cL_plays 172 = .ok (.istore 6, 2) := by decide +kernel
theorem dL_plays_174 : decode cL_plays 174 = .ok (.goto 118, 3) := by decide +kernel
theorem dL_plays_177 : decode cL_plays 177 = .ok (.iload 9, 2) := by decide +kernel
theorem dL_plays_179 : decode cL_plays 179 = .ok (.bipush 13, 2) := by decide +kernel
theorem dL_plays_181 : decode cL_plays 181 = .ok (.if_icmp .ne 19, 3) := by decide +kernel
theorem dL_plays_184 : decode cL_plays 184 = .ok (.aload 5, 2) := by decide +kernel
theorem dL_plays_186 : decode cL_plays 186 = .ok (.iload 8, 2) := by decide +kernel
theorem dL_plays_188 : decode cL_plays 188 = .ok (.aload_n 1, 1) := by decide +kernel
theorem dL_plays_189 : decode cL_plays 189 = .ok (.aload_n 2, 1) := by decide +kernel
theorem dL_plays_190 : decode cL_plays 190 = .ok (.aload 4, 2) := by decide +kernel
theorem dL_plays_192 : decode cL_plays 192 = .ok (.invokestatic 234, 3) := by decide +kernel
theorem dL_plays_195 : decode cL_plays 195 = .ok (.istore 6, 2) := by decide +kernel
theorem dL_plays_197 : decode cL_plays 197 = .ok (.goto 95, 3) := by decide +kernel
theorem dL_plays_200 : decode cL_plays 200 = .ok (.iload 9, 2) := by decide +kernel
theorem dL_plays_202 : decode cL_plays 202 = .ok (.bipush 14, 2) := by decide +kernel
theorem dL_plays_204 : decode cL_plays 204 = .ok (.if_icmp .ne 16, 3) := by decide +kernel
theorem dL_plays_207 : decode cL_plays 207 = .ok (.aload 5, 2) := by decide +kernel
theorem dL_plays_209 : decode cL_plays 209 = .ok (.aload_n 0, 1) := by decide +kernel
theorem dL_plays_210 : decode cL_plays 210 = .ok (.iload 8, 2) := by decide +kernel
theorem dL_plays_212 : decode cL_plays 212 = .ok (.invokestatic 238, 3) := by decide +kernel
theorem dL_plays_215 : decode cL_plays 215 = .ok (.istore 6, 2) := by decide +kernel
theorem dL_plays_217 : decode cL_plays 217 = .ok (.goto 75, 3) := by decide +kernel
theorem dL_plays_220 : decode cL_plays 220 = .ok (.iload 9, 2) := by decide +kernel
theorem dL_plays_222 : decode cL_plays 222 = .ok (.bipush 15, 2) := by decide +kernel
theorem dL_plays_224 : decode cL_plays 224 = .ok (.if_icmp .ne 37, 3) := by decide +kernel
theorem dL_plays_227 : decode cL_plays 227 = .ok (.aload 5, 2) := by decide +kernel
theorem dL_plays_229 : decode cL_plays 229 = .ok (.iconst 1, 1) := by decide +kernel
theorem dL_plays_230 : decode cL_plays 230 = .ok (.iload 8, 2) := by decide +kernel
theorem dL_plays_232 : decode cL_plays 232 = .ok (.iconst 0, 1) := by decide +kernel
theorem dL_plays_233 : decode cL_plays 233 = .ok (.iconst 0, 1) := by decide +kernel
theorem dL_plays_234 : decode cL_plays 234 = .ok (.invokestatic 170, 3) := by decide +kernel
theorem dL_plays_237 : decode cL_plays 237 = .ok (.ifCond .lt 18, 3) := by decide +kernel
theorem dL_plays_240 : decode cL_plays 240 = .ok (.aload 5, 2) := by decide +kernel
theorem dL_plays_242 : decode cL_plays 242 = .ok (.aload_n 0, 1) := by decide +kernel
theorem dL_plays_243 : decode cL_plays 243 = .ok (.iload 8, 2) := by decide +kernel
theorem dL_plays_245 : decode cL_plays 245 = .ok (.invokestatic 238, 3) := by decide +kernel
theorem dL_plays_248 : decode cL_plays 248 = .ok (.ifCond .eq 7, 3) := by decide +kernel
theorem dL_plays_251 : decode cL_plays 251 = .ok (.iconst 1, 1) := by decide +kernel
theorem dL_plays_252 : decode cL_plays 252 = .ok (.goto 4, 3) := by decide +kernel
theorem dL_plays_255 : decode cL_plays 255 = .ok (.iconst 0, 1) := by decide +kernel
theorem dL_plays_256 : decode cL_plays 256 = .ok (.istore 6, 2) := by decide +kernel
theorem dL_plays_258 : decode cL_plays 258 = .ok (.goto 34, 3) := by decide +kernel
theorem dL_plays_261 : decode cL_plays 261 = .ok (.aload 5, 2) := by decide +kernel
theorem dL_plays_263 : decode cL_plays 263 = .ok (.iload 8, 2) := by decide +kernel
theorem dL_plays_265 : decode cL_plays 265 = .ok (.invokevirtual 136, 3) := by decide +kernel
theorem dL_plays_268 : decode cL_plays 268 = .ok (.sipush 500, 3) := by decide +kernel
theorem dL_plays_271 : decode cL_plays 271 = .ok (.if_icmp .gt 14, 3) := by decide +kernel
theorem dL_plays_274 : decode cL_plays 274 = .ok (.aload 5, 2) := by decide +kernel
theorem dL_plays_276 : decode cL_plays 276 = .ok (.aload_n 0, 1) := by decide +kernel
theorem dL_plays_277 : decode cL_plays 277 = .ok (.iload 8, 2) := by decide +kernel
theorem dL_plays_279 : decode cL_plays 279 = .ok (.invokestatic 218, 3) := by decide +kernel
theorem dL_plays_282 : decode cL_plays 282 = .ok (.ifCond .eq 7, 3) := by decide +kernel
theorem dL_plays_285 : decode cL_plays 285 = .ok (.iconst 1, 1) := by decide +kernel
theorem dL_plays_286 : decode cL_plays 286 = .ok (.goto 4, 3) := by decide +kernel
theorem dL_plays_289 : decode cL_plays 289 = .ok (.iconst 0, 1) := by decide +kernel
theorem dL_plays_290 : decode cL_plays 290 = .ok (.istore 6, 2) := by decide +kernel
theorem dL_plays_292 : decode cL_plays 292 = .ok (.iinc 7 1, 3) := by decide +kernel
theorem dL_plays_295 : decode cL_plays 295 = .ok (.goto (-233), 3) := by decide +kernel
theorem dL_plays_298 : decode cL_plays 298 = .ok (.iload 6, 2) := by decide +kernel
theorem dL_plays_300 : decode cL_plays 300 = .ok (.ifCond .eq 88, 3) := by decide +kernel
theorem dL_plays_303 : decode cL_plays 303 = .ok (.aload 5, 2) := by decide +kernel
theorem dL_plays_305 : decode cL_plays 305 = .ok (.iconst 1, 1) := by decide +kernel
theorem dL_plays_306 : decode cL_plays 306 = .ok (.iconst 4, 1) := by decide +kernel
theorem dL_plays_307 : decode cL_plays 307 = .ok (.iconst 0, 1) := by decide +kernel
theorem dL_plays_308 : decode cL_plays 308 = .ok (.iconst 0, 1) := by decide +kernel
theorem dL_plays_309 : decode cL_plays 309 = .ok (.invokestatic 170, 3) := by decide +kernel
theorem dL_plays_312 : decode cL_plays 312 = .ok (.iconst (-1), 1) := by decide +kernel
theorem dL_plays_313 : decode cL_plays 313 = .ok (.if_icmp .ne 75, 3) := by decide +kernel
theorem dL_plays_316 : decode cL_plays 316 = .ok (.aload 5, 2) := by decide +kernel
theorem dL_plays_318 : decode cL_plays 318 = .ok (.iconst 2, 1) := by decide +kernel
theorem dL_plays_319 : decode cL_plays 319 = .ok (.iconst 0, 1) := by decide +kernel
theorem dL_plays_320 : decode cL_plays 320 = .ok (.iconst 0, 1) := by decide +kernel
theorem dL_plays_321 : decode cL_plays 321 = .ok (.aload 5, 2) := by decide +kernel
theorem dL_plays_323 : decode cL_plays 323 = .ok (.iconst 0, 1) := by decide +kernel
theorem dL_plays_324 : decode cL_plays 324 = .ok (.invokevirtual 136, 3) := by decide +kernel
theorem dL_plays_327 : decode cL_plays 327 = .ok (.iconst 1, 1) := by decide +kernel
theorem dL_plays_328 : decode cL_plays 328 = .ok (.iadd, 1) := by decide +kernel
theorem dL_plays_329 : decode cL_plays 329 = .ok (.invokestatic 170, 3) := by decide +kernel
theorem dL_plays_332 : decode cL_plays 332 = .ok (.iconst (-1), 1) := by decide +kernel
theorem dL_plays_333 : decode cL_plays 333 = .ok (.if_icmp .ne 55, 3) := by decide +kernel
theorem dL_plays_336 : decode cL_plays 336 = .ok (.aload 5, 2) := by decide +kernel
theorem dL_plays_338 : decode cL_plays 338 = .ok (.iconst 2, 1) := by decide +kernel
theorem dL_plays_339 : decode cL_plays 339 = .ok (.iconst 0, 1) := by decide +kernel
theorem dL_plays_340 : decode cL_plays 340 = .ok (.iconst 1, 1) := by decide +kernel
theorem dL_plays_341 : decode cL_plays 341 = .ok (.iconst 0, 1) := by decide +kernel
theorem dL_plays_342 : decode cL_plays 342 = .ok (.invokestatic 170, 3) := by decide +kernel
theorem dL_plays_345 : decode cL_plays 345 = .ok (.bipush (-2), 2) := by decide +kernel
theorem dL_plays_347 : decode cL_plays 347 = .ok (.if_icmp .ne 41, 3) := by decide +kernel
theorem dL_plays_350 : decode cL_plays 350 = .ok (.aload 5, 2) := by decide +kernel
theorem dL_plays_352 : decode cL_plays 352 = .ok (.bipush 6, 2) := by decide +kernel
theorem dL_plays_354 : decode cL_plays 354 = .ok (.iconst 0, 1) := by decide +kernel
theorem dL_plays_355 : decode cL_plays 355 = .ok (.iconst 0, 1) := by decide +kernel
theorem dL_plays_356 : decode cL_plays 356 = .ok (.iconst 0, 1) := by decide +kernel
theorem dL_plays_357 : decode cL_plays 357 = .ok (.invokestatic 170, 3) := by decide +kernel
theorem dL_plays_360 : decode cL_plays 360 = .ok (.bipush (-2), 2) := by decide +kernel
theorem dL_plays_362 : decode cL_plays 362 = .ok (.if_icmp .ne 26, 3) := by decide +kernel
theorem dL_plays_365 : decode cL_plays 365 = .ok (.aload 5, 2) := by decide +kernel
theorem dL_plays_367 : decode cL_plays 367 = .ok (.bipush 16, 2) := by decide +kernel
theorem dL_plays_369 : decode cL_plays 369 = .ok (.iconst 0, 1) := by decide +kernel
theorem dL_plays_370 : decode cL_plays 370 = .ok (.aload 5, 2) := by decide +kernel
theorem dL_plays_372 : decode cL_plays 372 = .ok (.iconst 0, 1) := by decide +kernel
theorem dL_plays_373 : decode cL_plays 373 = .ok (.invokevirtual 136, 3) := by decide +kernel
theorem dL_plays_376 : decode cL_plays 376 = .ok (.iconst 0, 1) := by decide +kernel
theorem dL_plays_377 : decode cL_plays 377 = .ok (.invokestatic 170, 3) := by decide +kernel
theorem dL_plays_380 : decode cL_plays 380 = .ok (.iconst (-1), 1) := by decide +kernel
theorem dL_plays_381 : decode cL_plays 381 = .ok (.if_icmp .ne 7, 3) := by decide +kernel
theorem dL_plays_384 : decode cL_plays 384 = .ok (.iconst 1, 1) := by decide +kernel
theorem dL_plays_385 : decode cL_plays 385 = .ok (.goto 4, 3) := by decide +kernel
theorem dL_plays_388 : decode cL_plays 388 = .ok (.iconst 0, 1) := by decide +kernel
theorem dL_plays_389 : decode cL_plays 389 = .ok (.istore 6, 2) := by decide +kernel
theorem dL_plays_391 : decode cL_plays 391 = .ok (.iload 6, 2) := by decide +kernel
theorem dL_plays_393 : decode cL_plays 393 = .ok (.ifCond .eq 15, 3) := by decide +kernel
theorem dL_plays_396 : decode cL_plays 396 = .ok (.aload 5, 2) := by decide +kernel
theorem dL_plays_398 : decode cL_plays 398 = .ok (.invokevirtual 241, 3) := by decide +kernel
theorem dL_plays_401 : decode cL_plays 401 = .ok (.ifCond .ne 7, 3) := by decide +kernel
theorem dL_plays_404 : decode cL_plays 404 = .ok (.iconst 1, 1) := by decide +kernel
theorem dL_plays_405 : decode cL_plays 405 = .ok (.goto 4, 3) := by decide +kernel
theorem dL_plays_408 : decode cL_plays 408 = .ok (.iconst 0, 1) := by decide +kernel
theorem dL_plays_409 : decode cL_plays 409 = .ok (.ireturn, 1) := by decide +kernel
abbrev vwCl : List vw_C := [(RJ0, TJ0, 4), (RJ4, TJ4, 4), (RX1, TX1, 3), (RX2, TX2, 1), (RX5, TX5, 3), (RX6, TX6, 2), (RX7, TX7, 6), (RX8, TX8, 4), (RX9, TX9, 4), (RX10, TX10, 10)]
