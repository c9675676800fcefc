set_option maxRecDepth 20000 in
theorem gL_law_L_printed : GoodIn wsL_law (va_wsS RL 136 yL_printed wsL_printed) := goodIn_app (goodIn_of _ (by decide +kernel)) ggL_law_L_printed
set_option maxRecDepth 20000 in
theorem ggL_law_X8_printed : GoodIn wsL_law wsX8_printed := goodIn_r _ [668, 622, 107, 618, 619, 620, 5, 621, 112, 104, 111, 623, 624, 625, 626, 239, 240, 241, 627, 628, 629, 630, 108, 109, 110, 631, 632, 633, 634, 635, 636, 637, 638, 639, 640, 641, 245, 246, 247, 642, 643, 644, 645, 248, 249, 250, 251, 252, 880, 881, 882, 883, 884, 885, 886, 887, 888, 889, 890, 891, 892, 893, 894, 895, 896] (by decide +kernel) (by decide +kernel)
set_option maxRecDepth 20000 in
theorem gL_law_X8_printed : GoodIn wsL_law (wsV RL 138 RX8 yX8_printed wsX8_printed) := goodIn_app (goodIn_of _ (by decide +kernel)) ggL_law_X8_printed
set_option maxRecDepth 20000 in
theorem ggL_law_X7_segments : GoodIn wsL_law wsX7_segments := goodIn_r _ [672, 28, 223, 224, 225, 15, 226, 63, 875, 876, 877, 878, 879, 907, 908, 909, 910, 911, 912, 913, 914, 897, 898] (by decide +kernel) (by decide +kernel)
set_option maxRecDepth 20000 in
theorem gL_law_X7_segments : GoodIn wsL_law (wsV RL 139 RX7 yX7_segments wsX7_segments) := goodIn_app (goodIn_of _ (by decide +kernel)) ggL_law_X7_segments
set_option maxRecDepth 20000 in
theorem ggL_law_X8_segments : GoodIn wsL_law wsX8_segments := goodIn_r _ [676, 252, 623, 618, 619, 620, 5, 621, 112, 104, 111, 622, 624, 625, 626, 239, 240, 241, 627, 628, 629, 630, 108, 109, 110, 631, 632, 633, 634, 635, 636, 637, 638, 639, 640, 641, 245, 246, 247, 642, 643, 644, 645, 107, 880, 881, 882, 883, 884, 885, 886, 887, 888, 889, 890, 891, 892, 893, 894, 895, 896] (by decide +kernel) (by decide +kernel)
set_option maxRecDepth 20000 in
theorem gL_law_X8_segments : GoodIn wsL_law (wsV RL 142 RX8 yX8_segments wsX8_segments) := goodIn_app (goodIn_of _ (by decide +kernel)) ggL_law_X8_segments
set_option maxRecDepth 20000 in
theorem ggL_law_L_segmentLength : GoodIn wsL_law wsL_segmentLength := goodIn_ca (goodIn_r _ [679, 446, 680, 681, 682, 2, 683, 451, 452, 28, 453, 454, 455, 15, 456, 63, 42, 457, 278, 279, 280, 875, 876, 877, 878, 879, 907, 908, 909, 910, 911, 912, 913, 914, 897, 898] (by decide +kernel) (by decide +kernel)) (goodIn_sub (fun _ h => List.mem_append_right _ h) (by decide +kernel))
set_option maxRecDepth 20000 in
theorem gL_law_L_segmentLength : GoodIn wsL_law (va_wsS RL 143 yL_segmentLength wsL_segmentLength) := goodIn_app (goodIn_of _ (by decide +kernel)) ggL_law_L_segmentLength
set_option maxRecDepth 20000 in
theorem ggL_law_X8_segmentLength : GoodIn wsL_law wsX8_segmentLength := goodIn_r _ [687, 623, 109, 618, 619, 620, 5, 621, 112, 104, 111, 622, 624, 625, 626, 239, 240, 241, 627, 628, 629, 630, 108, 110, 631, 632, 633, 634, 635, 636, 637, 638, 639, 640, 641, 245, 246, 247, 642, 643, 644, 645, 107, 248, 249, 250, 251, 252, 880, 881, 882, 883, 884, 885, 886, 887, 888, 889, 890, 891, 892, 893, 894, 895, 896] (by decide +kernel) (by decide +kernel)
set_option maxRecDepth 20000 in
theorem gL_law_X8_segmentLength : GoodIn wsL_law (wsV RL 145 RX8 yX8_segmentLength wsX8_segmentLength) := goodIn_app (goodIn_of _ (by decide +kernel)) ggL_law_X8_segmentLength
set_option maxRecDepth 20000 in
theorem ggL_law_L_segmentKind : GoodIn wsL_law wsL_segmentKind := goodIn_ca (goodIn_r _ [690, 446, 691, 692, 693, 2, 694, 451, 452, 28, 453, 454, 455, 15, 456, 63, 42, 457, 278, 279, 280, 875, 876, 877, 878, 879, 907, 908, 909, 910, 911, 912, 913, 914, 897, 898] (by decide +kernel) (by decide +kernel)) (goodIn_sub (fun _ h => List.mem_append_right _ h) (by decide +kernel))
set_option maxRecDepth 20000 in
theorem gL_law_L_segmentKind : GoodIn wsL_law (va_wsS RL 146 yL_segmentKind wsL_segmentKind) := goodIn_app (goodIn_of _ (by decide +kernel)) ggL_law_L_segmentKind
set_option maxRecDepth 20000 in
theorem ggL_law_X8_segmentKind : GoodIn wsL_law wsX8_segmentKind := goodIn_r _ [698, 623, 110, 618, 619, 620, 5, 621, 112, 104, 111, 622, 624, 625, 626, 239, 240, 241, 627, 628, 629, 630, 108, 109, 631, 632, 633, 634, 635, 636, 637, 638, 639, 640, 641, 245, 246, 247, 642, 643, 644, 645, 107, 248, 249, 250, 251, 252, 880, 881, 882, 883, 884, 885, 886, 887, 888, 889, 890, 891, 892, 893, 894, 895, 896] (by decide +kernel) (by decide +kernel)
set_option maxRecDepth 20000 in
theorem gL_law_X8_segmentKind : GoodIn wsL_law (wsV RL 148 RX8 yX8_segmentKind wsX8_segmentKind) := goodIn_app (goodIn_of _ (by decide +kernel)) ggL_law_X8_segmentKind
set_option maxRecDepth 20000 in
theorem ggL_law_X7_guesses : GoodIn wsL_law wsX7_guesses := goodIn_r _ [702, 28, 511, 512, 513, 15, 514, 63, 338, 278, 279, 280, 42, 875, 876, 877, 878, 879, 907, 908, 909, 910, 911, 912, 913, 914, 897, 898] (by decide +kernel) (by decide +kernel)
set_option maxRecDepth 20000 in
theorem gL_law_X7_guesses : GoodIn wsL_law (wsV RL 149 RX7 yX7_guesses wsX7_guesses) := goodIn_app (goodIn_of _ (by decide +kernel)) ggL_law_X7_guesses
set_option maxRecDepth 20000 in
theorem ggL_law_X8_guesses : GoodIn wsL_law wsX8_guesses := goodIn_r _ [706, 252, 618, 619, 620, 5, 621, 112, 104, 111, 622, 623, 624, 625, 626, 239, 240, 241, 627, 628, 629, 630, 108, 109, 110, 631, 632, 633, 634, 635, 636, 637, 638, 639, 640, 641, 245, 246, 247, 642, 643, 644, 645, 107, 707, 708, 709, 710, 880, 881, 882, 883, 884, 885, 886, 887, 888, 889, 890, 891, 892, 893, 894, 895, 896] (by decide +kernel) (by decide +kernel)
set_option maxRecDepth 20000 in
theorem gL_law_X8_guesses : GoodIn wsL_law (wsV RL 152 RX8 yX8_guesses wsX8_guesses) := goodIn_app (goodIn_of _ (by decide +kernel)) ggL_law_X8_guesses
set_option maxRecDepth 20000 in
theorem ggL_law_X7_doubtful : GoodIn wsL_law wsX7_doubtful := goodIn_r _ [714, 28, 511, 512, 513, 15, 514, 63, 338, 278, 279, 280, 42, 875, 876, 877, 878, 879, 907, 908, 909, 910, 911, 912, 913, 914, 897, 898] (by decide +kernel) (by decide +kernel)
set_option maxRecDepth 20000 in
theorem gL_law_X7_doubtful : GoodIn wsL_law (wsV RL 153 RX7 yX7_doubtful wsX7_doubtful) := goodIn_app (goodIn_of _ (by decide +kernel)) ggL_law_X7_doubtful
set_option maxRecDepth 20000 in
theorem ggL_law_X8_doubtful : GoodIn wsL_law wsX8_doubtful := goodIn_r _ [718, 252, 618, 619, 620, 5, 621, 112, 104, 111, 622, 623, 624, 625, 626, 239, 240, 241, 627, 628, 629, 630, 108, 109, 110, 631, 632, 633, 634, 635, 636, 637, 638, 639, 640, 641, 245, 246, 247, 642, 643, 644, 645, 107, 707, 708, 709, 710, 880, 881, 882, 883, 884, 885, 886, 887, 888, 889, 890, 891, 892, 893, 894, 895, 896] (by decide +kernel) (by decide +kernel)
set_option maxRecDepth 20000 in
theorem gL_law_X8_doubtful : GoodIn wsL_law (wsV RL 156 RX8 yX8_doubtful wsX8_doubtful) := goodIn_app (goodIn_of _ (by decide +kernel)) ggL_law_X8_doubtful
set_option maxRecDepth 20000 in
theorem ggL_law_X7_bells : GoodIn wsL_law wsX7_bells := goodIn_r _ [722, 28, 875, 876, 877, 878, 879, 907, 908, 909, 910, 911, 912, 913, 914] (by decide +kernel) (by decide +kernel)
set_option maxRecDepth 20000 in
theorem gL_law_X7_bells : GoodIn wsL_law (wsV RL 157 RX7 yX7_bells wsX7_bells) := goodIn_app (goodIn_of _ (by decide +kernel)) ggL_law_X7_bells
set_option maxRecDepth 20000 in
theorem ggL_law_X8_bells : GoodIn wsL_law wsX8_bells := goodIn_r _ [726, 252, 624, 618, 619, 620, 5, 621, 112, 104, 111, 622, 623, 625, 626, 239, 240, 241, 627, 628, 629, 630, 108, 109, 110, 631, 632, 633, 634, 635, 636, 637, 638, 639, 640, 641, 245, 246, 247, 642, 643, 644, 645, 107, 880, 881, 882, 883, 884, 885, 886, 887, 888, 889, 890, 891, 892, 893, 894, 895, 896] (by decide +kernel) (by decide +kernel)
set_option maxRecDepth 20000 in
theorem gL_law_X8_bells : GoodIn wsL_law (wsV RL 160 RX8 yX8_bells wsX8_bells) := goodIn_app (goodIn_of _ (by decide +kernel)) ggL_law_X8_bells
set_option maxRecDepth 20000 in
theorem ggL_law_X7_questions : GoodIn wsL_law wsX7_questions := goodIn_r _ [730, 28, 875, 876, 877, 878, 879, 907, 908, 909, 910, 911, 912, 913, 914] (by decide +kernel) (by decide +kernel)
set_option maxRecDepth 20000 in
theorem gL_law_X7_questions : GoodIn wsL_law (wsV RL 161 RX7 yX7_questions wsX7_questions) := goodIn_app (goodIn_of _ (by decide +kernel)) ggL_law_X7_questions
set_option maxRecDepth 20000 in
theorem ggL_law_X8_questions : GoodIn wsL_law wsX8_questions := goodIn_r _ [734, 252, 625, 618, 619, 620, 5, 621, 112, 104, 111, 622, 623, 624, 626, 239, 240, 241, 627, 628, 629, 630, 108, 109, 110, 631, 632, 633, 634, 635, 636, 637, 638, 639, 640, 641, 245, 246, 247, 642, 643, 644, 645, 107, 880, 881, 882, 883, 884, 885, 886, 887, 888, 889, 890, 891, 892, 893, 894, 895, 896] (by decide +kernel) (by decide +kernel)
set_option maxRecDepth 20000 in
theorem gL_law_X8_questions : GoodIn wsL_law (wsV RL 164 RX8 yX8_questions wsX8_questions) := goodIn_app (goodIn_of _ (by decide +kernel)) ggL_law_X8_questions
set_option maxRecDepth 20000 in
theorem ggL_law_X7_receiverShift : GoodIn wsL_law wsX7_receiverShift := goodIn_r _ [738, 28, 875, 876, 877, 878, 879, 907, 908, 909, 910, 911, 912, 913, 914] (by decide +kernel) (by decide +kernel)
set_option maxRecDepth 20000 in
theorem gL_law_X7_receiverShift : GoodIn wsL_law (wsV RL 165 RX7 yX7_receiverShift wsX7_receiverShift) := goodIn_app (goodIn_of _ (by decide +kernel)) ggL_law_X7_receiverShift
set_option maxRecDepth 20000 in
theorem ggL_law_X8_receiverShift : GoodIn wsL_law wsX8_receiverShift := goodIn_r _ [742, 252, 626, 618, 619, 620, 5, 621, 112, 104, 111, 622, 623, 624, 625, 239, 240, 241, 627, 628, 629, 630, 108, 109, 110, 631, 632, 633, 634, 635, 636, 637, 638, 639, 640, 641, 245, 246, 247, 642, 643, 644, 645, 107, 880, 881, 882, 883, 884, 885, 886, 887, 888, 889, 890, 891, 892, 893, 894, 895, 896] (by decide +kernel) (by decide +kernel)
set_option maxRecDepth 20000 in
theorem gL_law_X8_receiverShift : GoodIn wsL_law (wsV RL 168 RX8 yX8_receiverShift wsX8_receiverShift) := goodIn_app (goodIn_of _ (by decide +kernel)) ggL_law_X8_receiverShift
set_option maxRecDepth 20000 in
theorem ggL_law_X7_wrongCharacters : GoodIn wsL_law wsX7_wrongCharacters := goodIn_r _ [746, 28, 20, 747, 167, 39, 168, 748, 38, 40, 223, 224, 225, 15, 226, 63, 457, 278, 279, 280, 42, 875, 876, 877, 878, 879, 907, 908, 909, 910, 911, 912, 913, 914, 899, 900, 901, 902, 903, 904, 905, 897, 898] (by decide +kernel) (by decide +kernel)
set_option maxRecDepth 20000 in
theorem gL_law_X7_wrongCharacters : GoodIn wsL_law (wsV RL 169 RX7 yX7_wrongCharacters wsX7_wrongCharacters) := goodIn_app (goodIn_of _ (by decide +kernel)) ggL_law_X7_wrongCharacters
set_option maxRecDepth 20000 in
theorem ggL_law_X8_wrongCharacters : GoodIn wsL_law wsX8_wrongCharacters := goodIn_r _ [752, 252, 618, 619, 620, 5, 621, 112, 104, 111, 622, 623, 624, 625, 626, 239, 240, 241, 627, 628, 629, 630, 108, 109, 110, 631, 632, 633, 634, 635, 636, 637, 638, 639, 640, 641, 245, 246, 247, 642, 643, 644, 645, 107, 753, 754, 755, 756, 880, 881, 882, 883, 884, 885, 886, 887, 888, 889, 890, 891, 892, 893, 894, 895, 896] (by decide +kernel) (by decide +kernel)
set_option maxRecDepth 20000 in
theorem gL_law_X8_wrongCharacters : GoodIn wsL_law (wsV RL 172 RX8 yX8_wrongCharacters wsX8_wrongCharacters) := goodIn_app (goodIn_of _ (by decide +kernel)) ggL_law_X8_wrongCharacters
set_option maxRecDepth 20000 in
theorem ggL_law_X7_plausibility : GoodIn wsL_law wsX7_plausibility := goodIn_r _ [760, 761, 670, 671, 2, 672, 28, 223, 224, 225, 15, 226, 63, 762, 712, 713, 714, 511, 512, 513, 514, 338, 278, 279, 280, 42, 875, 876, 877, 878, 879, 907, 908, 909, 910, 911, 912, 913, 914, 897, 898] (by decide +kernel) (by decide +kernel)
set_option maxRecDepth 20000 in
theorem gL_law_X7_plausibility : GoodIn wsL_law (wsV RL 173 RX7 yX7_plausibility wsX7_plausibility) := goodIn_app (goodIn_of _ (by decide +kernel)) ggL_law_X7_plausibility
set_option maxRecDepth 20000 in
theorem ggL_law_X8_plausibility : GoodIn wsL_law wsX8_plausibility := goodIn_r _ [766, 252, 623, 618, 619, 620, 5, 621, 112, 104, 111, 622, 624, 625, 626, 239, 240, 241, 627, 628, 629, 630, 108, 109, 110, 631, 632, 633, 634, 635, 636, 637, 638, 639, 640, 641, 245, 246, 247, 642, 643, 644, 645, 107, 707, 708, 709, 710, 880, 881, 882, 883, 884, 885, 886, 887, 888, 889, 890, 891, 892, 893, 894, 895, 896] (by decide +kernel) (by decide +kernel)
set_option maxRecDepth 20000 in
theorem gL_law_X8_plausibility : GoodIn wsL_law (wsV RL 177 RX8 yX8_plausibility wsX8_plausibility) := goodIn_app (goodIn_of _ (by decide +kernel)) ggL_law_X8_plausibility
set_option maxRecDepth 20000 in
theorem ggL_law_L_doubtfulWith : GoodIn wsL_law wsL_doubtfulWith := goodIn_ca (goodIn_ca (goodIn_r _ [769, 446, 117, 770, 771, 772, 2, 773, 451, 452, 123, 124, 340, 341, 342, 343, 20, 223, 224, 225, 15, 226, 63, 762, 712, 713, 714, 28, 511, 512, 513, 514, 338, 278, 279, 280, 42, 774, 775, 776, 777, 24, 778, 779, 129, 780, 781, 403, 367, 368, 782, 783, 784, 785, 786, 787, 788, 23, 789, 790, 791, 792, 793, 377, 378, 379, 380, 72, 381, 382, 383, 384, 385, 386, 387, 388, 389, 390, 391, 392, 393, 394, 875, 876, 877, 878, 879, 899, 900, 901, 902, 903, 904, 905, 897, 898, 907, 908, 909, 910, 911, 912, 913, 914, 906] (by decide +kernel) (by decide +kernel)) (goodIn_sub (fun _ h => List.mem_append_right _ h) (by decide +kernel))) (goodIn_sub (fun _ h => List.mem_append_left _ (List.mem_append_left _ (List.mem_append_right _ h))) (by decide +kernel))
set_option maxRecDepth 20000 in
theorem gL_law_L_doubtfulWith : GoodIn wsL_law (va_wsS RL 178 yL_doubtfulWith wsL_doubtfulWith) := goodIn_app (goodIn_of _ (by decide +kernel)) ggL_law_L_doubtfulWith
set_option maxRecDepth 20000 in
theorem ggL_law_X8_doubtfulWith : GoodIn wsL_law wsX8_doubtfulWith := goodIn_r _ [797, 104, 239, 240, 5, 241, 248, 249, 250, 251, 252, 798, 799, 800, 801, 618, 619, 620, 621, 112, 111, 622, 623, 624, 625, 626, 627, 628, 629, 630, 108, 109, 110, 631, 632, 633, 634, 635, 636, 637, 638, 639, 640, 641, 245, 246, 247, 642, 643, 644, 645, 107, 707, 708, 709, 710, 880, 881, 882, 883, 884, 885, 886, 887, 888, 889, 890, 891, 892, 893, 894, 895, 896] (by decide +kernel) (by decide +kernel)
set_option maxRecDepth 20000 in
theorem gL_law_X8_doubtfulWith : GoodIn wsL_law (wsV RL 180 RX8 yX8_doubtfulWith wsX8_doubtfulWith) := goodIn_app (goodIn_of _ (by decide +kernel)) ggL_law_X8_doubtfulWith
set_option maxRecDepth 20000 in
theorem ggL_law_X7_bestRepair : GoodIn wsL_law wsX7_bestRepair := goodIn_r _ [805, 28, 24, 20, 761, 670, 671, 2, 672, 223, 224, 225, 15, 226, 63, 457, 278, 279, 280, 42, 806, 807, 808, 23, 809, 790, 791, 792, 793, 377, 378, 379, 380, 72, 381, 382, 383, 384, 385, 386, 387, 388, 338, 389, 390, 391, 392, 393, 129, 394, 875, 876, 877, 878, 879, 907, 908, 909, 910, 911, 912, 913, 914, 899, 900, 901, 902, 903, 904, 905, 897, 898, 906] (by decide +kernel) (by decide +kernel)
set_option maxRecDepth 20000 in
theorem gL_law_X7_bestRepair : GoodIn wsL_law (wsV RL 181 RX7 yX7_bestRepair wsX7_bestRepair) := goodIn_app (goodIn_of _ (by decide +kernel)) ggL_law_X7_bestRepair
set_option maxRecDepth 20000 in
theorem ggL_law_X8_bestRepair : GoodIn wsL_law wsX8_bestRepair := goodIn_r _ [813, 252, 814, 815, 816, 5, 817, 104, 798, 799, 800, 801, 618, 619, 620, 621, 112, 111, 622, 623, 624, 625, 626, 239, 240, 241, 627, 628, 629, 630, 108, 109, 110, 631, 632, 633, 634, 635, 636, 637, 638, 639, 640, 641, 245, 246, 247, 642, 643, 644, 645, 107, 707, 708, 709, 710, 880, 881, 882, 883, 884, 885, 886, 887, 888, 889, 890, 891, 892, 893, 894, 895, 896] (by decide +kernel) (by decide +kernel)
set_option maxRecDepth 20000 in
theorem gL_law_X8_bestRepair : GoodIn wsL_law (wsV RL 184 RX8 yX8_bestRepair wsX8_bestRepair) := goodIn_app (goodIn_of _ (by decide +kernel)) ggL_law_X8_bestRepair
set_option maxRecDepth 20000 in
theorem ggL_law_L_undo : GoodIn wsL_law wsL_undo := goodIn_ca (goodIn_r _ [820, 118, 821, 822, 823, 2, 824, 125, 126, 32, 20, 24, 28, 825, 826, 827, 31, 828, 316, 321, 322, 323, 324, 90, 829, 830, 831, 92, 832, 97, 98, 329, 330, 331, 332, 333, 334, 335, 336, 15, 337, 63, 59, 60, 61, 62, 338, 278, 279, 280, 42, 64, 65, 66, 67, 833, 834, 835, 836, 353, 354, 355, 27, 356, 357, 358, 359, 360, 78, 79, 80, 81, 82, 83, 361, 362, 363, 364, 224, 225, 226, 365, 366, 367, 129, 368, 369, 370, 371, 372, 373, 374, 375, 23, 376, 377, 378, 379, 380, 72, 381, 382, 383, 384, 385, 386, 387, 388, 389, 390, 391, 392, 393, 394, 395, 396, 397, 398, 399, 400, 401, 402, 403, 404, 154, 155, 140, 156, 146, 157, 158, 159, 160, 151, 152, 405, 406, 407, 408, 147, 148, 149, 150, 409, 410, 163, 411, 412, 413, 414, 194, 415, 416, 197, 417, 418, 419, 177, 420, 421, 422, 423, 188, 189, 190, 424, 202, 203, 204, 205, 206, 207, 425, 426, 427, 428, 429, 287, 288, 875, 876, 877, 878, 879, 915, 916, 899, 900, 901, 902, 903, 904, 905, 917, 918, 919, 920, 921, 922, 923, 906, 897, 898, 907, 908, 909, 910, 911, 912, 913, 914] (by decide +kernel) (by decide +kernel)) (goodIn_sub (fun _ h => List.mem_append_left _ (List.mem_append_right _ h)) (by decide +kernel))
set_option maxRecDepth 20000 in
theorem gL_law_L_undo : GoodIn wsL_law (va_wsS RL 185 yL_undo wsL_undo) := goodIn_app (goodIn_of _ (by decide +kernel)) ggL_law_L_undo
set_option maxRecDepth 20000 in
theorem ggL_law_X8_undo : GoodIn wsL_law wsX8_undo := goodIn_r _ [840, 438, 104, 105, 248, 249, 250, 5, 251, 252, 880, 881, 882, 883, 884, 885, 886, 887, 888, 889, 890, 891, 892, 893, 894, 895, 896] (by decide +kernel) (by decide +kernel)
set_option maxRecDepth 20000 in
theorem gL_law_X8_undo : GoodIn wsL_law (wsV RL 187 RX8 yX8_undo wsX8_undo) := goodIn_app (goodIn_of _ (by decide +kernel)) ggL_law_X8_undo
set_option maxRecDepth 20000 in
theorem ggL_law_X7_savedStates : GoodIn wsL_law wsX7_savedStates := goodIn_r _ [844, 32, 875, 876, 877, 878, 879, 915, 916] (by decide +kernel) (by decide +kernel)
set_option maxRecDepth 20000 in
theorem gL_law_X7_savedStates : GoodIn wsL_law (wsV RL 188 RX7 yX7_savedStates wsX7_savedStates) := goodIn_app (goodIn_of _ (by decide +kernel)) ggL_law_X7_savedStates
set_option maxRecDepth 20000 in
theorem ggL_law_X8_savedStates : GoodIn wsL_law wsX8_savedStates := goodIn_r _ [848, 252, 438, 880, 881, 882, 883, 884, 885, 886, 887, 888, 889, 890, 891, 892, 893, 894, 895, 896] (by decide +kernel) (by decide +kernel)
set_option maxRecDepth 20000 in
theorem gL_law_X8_savedStates : GoodIn wsL_law (wsV RL 191 RX8 yX8_savedStates wsX8_savedStates) := goodIn_app (goodIn_of _ (by decide +kernel)) ggL_law_X8_savedStates
set_option maxRecDepth 20000 in
theorem ggL_law_X7_digest : GoodIn wsL_law wsX7_digest := goodIn_r _ [852, 853, 854, 20, 28, 24, 307, 308, 309, 2, 310, 223, 224, 225, 15, 226, 63, 340, 341, 342, 343, 855, 500, 501, 502, 856, 508, 509, 510, 511, 512, 513, 514, 338, 278, 279, 280, 42, 545, 546, 547, 548, 857, 651, 652, 653, 761, 670, 671, 672, 858, 700, 701, 702, 762, 712, 713, 714, 859, 720, 721, 722, 860, 728, 729, 730, 861, 736, 737, 738, 862, 744, 745, 746, 747, 167, 39, 168, 748, 38, 40, 457, 863, 803, 804, 805, 806, 807, 808, 23, 809, 790, 791, 792, 793, 377, 378, 379, 380, 72, 381, 382, 383, 384, 385, 386, 387, 388, 389, 390, 391, 392, 393, 129, 394, 864, 865, 866, 867, 868, 568, 569, 570, 571, 572, 573, 574, 575, 875, 876, 877, 878, 879, 899, 900, 901, 902, 903, 904, 905, 907, 908, 909, 910, 911, 912, 913, 914, 897, 898, 906] (by decide +kernel) (by decide +kernel)
set_option maxRecDepth 20000 in
theorem gL_law_X7_digest : GoodIn wsL_law (wsV RL 192 RX7 yX7_digest wsX7_digest) := goodIn_app (goodIn_of _ (by decide +kernel)) ggL_law_X7_digest
set_option maxRecDepth 20000 in
theorem ggL_law_X8_digest : GoodIn wsL_law wsX8_digest := goodIn_r _ [872, 252, 873, 104, 874, 622, 623, 624, 625, 626, 107, 109, 110, 814, 815, 816, 5, 817, 798, 799, 800, 801, 618, 619, 620, 621, 112, 111, 239, 240, 241, 627, 628, 629, 630, 108, 631, 632, 633, 634, 635, 636, 637, 638, 639, 640, 641, 245, 246, 247, 642, 643, 644, 645, 707, 708, 709, 710, 519, 520, 521, 522, 753, 754, 755, 756, 646, 647, 648, 649, 880, 881, 882, 883, 884, 885, 886, 887, 888, 889, 890, 891, 892, 893, 894, 895, 896] (by decide +kernel) (by decide +kernel)
set_option maxRecDepth 20000 in
theorem gL_law_X8_digest : GoodIn wsL_law (wsV RL 196 RX8 yX8_digest wsX8_digest) := goodIn_app (goodIn_of _ (by decide +kernel)) ggL_law_X8_digest
