set_option maxRecDepth 20000 in
theorem gL_law_L_send : GoodIn wsL_law (va_wsS RL 81 yL_send wsL_send) := goodIn_app (goodIn_of _ (by decide +kernel)) ggL_law_L_send
set_option maxRecDepth 20000 in
theorem ggL_law_X8_send : GoodIn wsL_law wsX8_send := goodIn_r _ [433, 232, 104, 106, 293, 294, 295, 5, 296, 297, 298, 299, 236, 237, 238, 239, 240, 241, 248, 249, 250, 251, 252, 434, 435, 436, 437, 438, 105, 439, 440, 441, 442, 233, 234, 235, 242, 243, 244, 245, 246, 247, 880, 881, 882, 883, 884, 885, 886, 887, 888, 889, 890, 891, 892, 893, 894, 895, 896] (by decide +kernel) (by decide +kernel)
set_option maxRecDepth 20000 in
theorem gL_law_X8_send : GoodIn wsL_law (wsV RL 84 RX8 yX8_send wsX8_send) := goodIn_app (goodIn_of _ (by decide +kernel)) ggL_law_X8_send
set_option maxRecDepth 20000 in
theorem ggL_law_L_setFault : GoodIn wsL_law wsL_setFault := goodIn_ca (goodIn_ca (goodIn_r _ [445, 446, 117, 447, 448, 449, 2, 450, 451, 452, 123, 124, 20, 32, 24, 453, 454, 455, 15, 456, 63, 42, 312, 313, 314, 31, 315, 316, 90, 317, 318, 319, 320, 321, 322, 323, 324, 325, 326, 327, 92, 328, 97, 98, 329, 330, 331, 332, 333, 334, 335, 336, 337, 59, 60, 61, 62, 338, 278, 279, 280, 64, 65, 66, 67, 339, 224, 225, 226, 457, 458, 459, 460, 461, 462, 875, 876, 877, 878, 879, 899, 900, 901, 902, 903, 904, 905, 897, 898, 915, 916, 917, 918, 919, 920, 921, 922, 923, 906] (by decide +kernel) (by decide +kernel)) (goodIn_sub (fun _ h => List.mem_append_right _ h) (by decide +kernel))) (goodIn_sub (fun _ h => List.mem_append_left _ (List.mem_append_left _ (List.mem_append_right _ h))) (by decide +kernel))
set_option maxRecDepth 20000 in
theorem gL_law_L_setFault : GoodIn wsL_law (va_wsS RL 85 yL_setFault wsL_setFault) := goodIn_app (goodIn_of _ (by decide +kernel)) ggL_law_L_setFault
set_option maxRecDepth 20000 in
theorem ggL_law_X8_setFault : GoodIn wsL_law wsX8_setFault := goodIn_r _ [466, 104, 239, 240, 5, 241, 248, 249, 250, 251, 252, 434, 435, 436, 437, 438, 105, 880, 881, 882, 883, 884, 885, 886, 887, 888, 889, 890, 891, 892, 893, 894, 895, 896] (by decide +kernel) (by decide +kernel)
set_option maxRecDepth 20000 in
theorem gL_law_X8_setFault : GoodIn wsL_law (wsV RL 88 RX8 yX8_setFault wsX8_setFault) := goodIn_app (goodIn_of _ (by decide +kernel)) ggL_law_X8_setFault
set_option maxRecDepth 20000 in
theorem ggL_law_X7_sent : GoodIn wsL_law wsX7_sent := goodIn_r _ [310, 20, 223, 224, 225, 15, 226, 63, 875, 876, 877, 878, 879, 899, 900, 901, 902, 903, 904, 905, 897, 898] (by decide +kernel) (by decide +kernel)
set_option maxRecDepth 20000 in
theorem gL_law_X7_sent : GoodIn wsL_law (wsV RL 89 RX7 yX7_sent wsX7_sent) := goodIn_app (goodIn_of _ (by decide +kernel)) ggL_law_X7_sent
set_option maxRecDepth 20000 in
theorem ggL_law_X8_sent : GoodIn wsL_law wsX8_sent := goodIn_r _ [471, 252, 104, 880, 881, 882, 883, 884, 885, 886, 887, 888, 889, 890, 891, 892, 893, 894, 895, 896] (by decide +kernel) (by decide +kernel)
set_option maxRecDepth 20000 in
theorem gL_law_X8_sent : GoodIn wsL_law (wsV RL 92 RX8 yX8_sent wsX8_sent) := goodIn_app (goodIn_of _ (by decide +kernel)) ggL_law_X8_sent
set_option maxRecDepth 20000 in
theorem ggL_law_X7_received : GoodIn wsL_law wsX7_received := goodIn_r _ [343, 20, 223, 224, 225, 15, 226, 63, 875, 876, 877, 878, 879, 899, 900, 901, 902, 903, 904, 905, 897, 898] (by decide +kernel) (by decide +kernel)
set_option maxRecDepth 20000 in
theorem gL_law_X7_received : GoodIn wsL_law (wsV RL 93 RX7 yX7_received wsX7_received) := goodIn_app (goodIn_of _ (by decide +kernel)) ggL_law_X7_received
set_option maxRecDepth 20000 in
theorem ggL_law_X8_received : GoodIn wsL_law wsX8_received := goodIn_r _ [476, 252, 104, 880, 881, 882, 883, 884, 885, 886, 887, 888, 889, 890, 891, 892, 893, 894, 895, 896] (by decide +kernel) (by decide +kernel)
set_option maxRecDepth 20000 in
theorem gL_law_X8_received : GoodIn wsL_law (wsV RL 96 RX8 yX8_received wsX8_received) := goodIn_app (goodIn_of _ (by decide +kernel)) ggL_law_X8_received
set_option maxRecDepth 20000 in
theorem ggL_law_L_sentCode : GoodIn wsL_law wsL_sentCode := goodIn_ca (goodIn_r _ [479, 446, 480, 481, 482, 2, 483, 451, 452, 20, 453, 454, 455, 15, 456, 63, 42, 457, 278, 279, 280, 875, 876, 877, 878, 879, 899, 900, 901, 902, 903, 904, 905, 897, 898] (by decide +kernel) (by decide +kernel)) (goodIn_sub (fun _ h => List.mem_append_right _ h) (by decide +kernel))
set_option maxRecDepth 20000 in
theorem gL_law_L_sentCode : GoodIn wsL_law (va_wsS RL 97 yL_sentCode wsL_sentCode) := goodIn_app (goodIn_of _ (by decide +kernel)) ggL_law_L_sentCode
set_option maxRecDepth 20000 in
theorem ggL_law_X8_sentCode : GoodIn wsL_law wsX8_sentCode := goodIn_r _ [487, 104, 239, 240, 5, 241, 248, 249, 250, 251, 252, 880, 881, 882, 883, 884, 885, 886, 887, 888, 889, 890, 891, 892, 893, 894, 895, 896] (by decide +kernel) (by decide +kernel)
set_option maxRecDepth 20000 in
theorem gL_law_X8_sentCode : GoodIn wsL_law (wsV RL 99 RX8 yX8_sentCode wsX8_sentCode) := goodIn_app (goodIn_of _ (by decide +kernel)) ggL_law_X8_sentCode
set_option maxRecDepth 20000 in
theorem ggL_law_L_receivedCode : GoodIn wsL_law wsL_receivedCode := goodIn_ca (goodIn_r _ [490, 446, 491, 492, 493, 2, 494, 451, 452, 20, 453, 454, 455, 15, 456, 63, 42, 457, 278, 279, 280, 875, 876, 877, 878, 879, 899, 900, 901, 902, 903, 904, 905, 897, 898] (by decide +kernel) (by decide +kernel)) (goodIn_sub (fun _ h => List.mem_append_right _ h) (by decide +kernel))
set_option maxRecDepth 20000 in
theorem gL_law_L_receivedCode : GoodIn wsL_law (va_wsS RL 100 yL_receivedCode wsL_receivedCode) := goodIn_app (goodIn_of _ (by decide +kernel)) ggL_law_L_receivedCode
set_option maxRecDepth 20000 in
theorem ggL_law_X8_receivedCode : GoodIn wsL_law wsX8_receivedCode := goodIn_r _ [498, 104, 239, 240, 5, 241, 248, 249, 250, 251, 252, 880, 881, 882, 883, 884, 885, 886, 887, 888, 889, 890, 891, 892, 893, 894, 895, 896] (by decide +kernel) (by decide +kernel)
set_option maxRecDepth 20000 in
theorem gL_law_X8_receivedCode : GoodIn wsL_law (wsV RL 102 RX8 yX8_receivedCode wsX8_receivedCode) := goodIn_app (goodIn_of _ (by decide +kernel)) ggL_law_X8_receivedCode
set_option maxRecDepth 20000 in
theorem ggL_law_X7_senderShift : GoodIn wsL_law wsX7_senderShift := goodIn_r _ [502, 20, 875, 876, 877, 878, 879, 899, 900, 901, 902, 903, 904, 905] (by decide +kernel) (by decide +kernel)
set_option maxRecDepth 20000 in
theorem gL_law_X7_senderShift : GoodIn wsL_law (wsV RL 103 RX7 yX7_senderShift wsX7_senderShift) := goodIn_app (goodIn_of _ (by decide +kernel)) ggL_law_X7_senderShift
set_option maxRecDepth 20000 in
theorem ggL_law_X8_senderShift : GoodIn wsL_law wsX8_senderShift := goodIn_r _ [506, 252, 104, 880, 881, 882, 883, 884, 885, 886, 887, 888, 889, 890, 891, 892, 893, 894, 895, 896] (by decide +kernel) (by decide +kernel)
set_option maxRecDepth 20000 in
theorem gL_law_X8_senderShift : GoodIn wsL_law (wsV RL 106 RX8 yX8_senderShift wsX8_senderShift) := goodIn_app (goodIn_of _ (by decide +kernel)) ggL_law_X8_senderShift
set_option maxRecDepth 20000 in
theorem ggL_law_X7_faults : GoodIn wsL_law wsX7_faults := goodIn_r _ [510, 20, 511, 512, 513, 15, 514, 63, 338, 278, 279, 280, 42, 875, 876, 877, 878, 879, 899, 900, 901, 902, 903, 904, 905, 897, 898] (by decide +kernel) (by decide +kernel)
set_option maxRecDepth 20000 in
theorem gL_law_X7_faults : GoodIn wsL_law (wsV RL 107 RX7 yX7_faults wsX7_faults) := goodIn_app (goodIn_of _ (by decide +kernel)) ggL_law_X7_faults
set_option maxRecDepth 20000 in
theorem ggL_law_X8_faults : GoodIn wsL_law wsX8_faults := goodIn_r _ [518, 252, 519, 520, 521, 5, 522, 104, 880, 881, 882, 883, 884, 885, 886, 887, 888, 889, 890, 891, 892, 893, 894, 895, 896] (by decide +kernel) (by decide +kernel)
set_option maxRecDepth 20000 in
theorem gL_law_X8_faults : GoodIn wsL_law (wsV RL 110 RX8 yX8_faults wsX8_faults) := goodIn_app (goodIn_of _ (by decide +kernel)) ggL_law_X8_faults
set_option maxRecDepth 20000 in
theorem ggL_law_X7_unshiftOnSpace : GoodIn wsL_law wsX7_unshiftOnSpace := goodIn_r _ [526, 32, 20, 24, 28, 312, 313, 314, 31, 315, 316, 90, 317, 318, 319, 320, 321, 322, 323, 324, 325, 326, 327, 92, 328, 97, 98, 329, 330, 331, 332, 333, 334, 335, 336, 15, 337, 63, 59, 60, 61, 62, 338, 278, 279, 280, 42, 64, 65, 66, 67, 339, 224, 225, 226, 353, 354, 355, 27, 356, 357, 358, 359, 360, 78, 79, 80, 81, 82, 83, 361, 362, 363, 364, 365, 366, 367, 129, 368, 369, 370, 371, 372, 373, 374, 375, 23, 376, 377, 378, 379, 380, 72, 381, 382, 383, 384, 385, 386, 387, 388, 389, 390, 391, 392, 393, 394, 395, 396, 397, 398, 399, 400, 401, 402, 403, 404, 154, 155, 140, 156, 146, 157, 158, 159, 160, 151, 152, 405, 406, 407, 408, 147, 148, 149, 150, 409, 410, 163, 411, 412, 413, 414, 194, 415, 416, 197, 417, 418, 419, 177, 420, 421, 422, 423, 188, 189, 190, 424, 202, 203, 204, 205, 206, 207, 425, 426, 427, 428, 429, 287, 288, 875, 876, 877, 878, 879, 899, 900, 901, 902, 903, 904, 905, 915, 916, 917, 918, 919, 920, 921, 922, 923, 906, 897, 898, 907, 908, 909, 910, 911, 912, 913, 914] (by decide +kernel) (by decide +kernel)
set_option maxRecDepth 20000 in
theorem gL_law_X7_unshiftOnSpace : GoodIn wsL_law (wsV RL 111 RX7 yX7_unshiftOnSpace wsX7_unshiftOnSpace) := goodIn_app (goodIn_of _ (by decide +kernel)) ggL_law_X7_unshiftOnSpace
set_option maxRecDepth 20000 in
theorem ggL_law_X8_unshiftOnSpace : GoodIn wsL_law wsX8_unshiftOnSpace := goodIn_r _ [530, 252, 104, 434, 435, 436, 5, 437, 438, 105, 880, 881, 882, 883, 884, 885, 886, 887, 888, 889, 890, 891, 892, 893, 894, 895, 896] (by decide +kernel) (by decide +kernel)
set_option maxRecDepth 20000 in
theorem gL_law_X8_unshiftOnSpace : GoodIn wsL_law (wsV RL 115 RX8 yX8_unshiftOnSpace wsX8_unshiftOnSpace) := goodIn_app (goodIn_of _ (by decide +kernel)) ggL_law_X8_unshiftOnSpace
set_option maxRecDepth 20000 in
theorem ggL_law_L_learn : GoodIn wsL_law wsL_learn := goodIn_ca (goodIn_ca (goodIn_r _ [533, 117, 118, 534, 535, 536, 2, 537, 123, 124, 125, 126, 16, 24, 32, 20, 28, 538, 539, 23, 540, 541, 224, 225, 15, 226, 63, 384, 278, 279, 280, 42, 542, 132, 129, 133, 543, 128, 130, 131, 134, 135, 136, 137, 138, 139, 140, 141, 142, 143, 144, 145, 146, 147, 148, 149, 150, 151, 152, 153, 154, 155, 156, 157, 158, 159, 160, 161, 162, 163, 164, 165, 38, 39, 40, 166, 167, 168, 169, 170, 171, 172, 173, 174, 175, 176, 177, 178, 179, 180, 181, 182, 183, 184, 185, 186, 187, 188, 189, 190, 191, 192, 193, 194, 195, 196, 197, 198, 199, 200, 201, 202, 203, 204, 205, 206, 207, 208, 209, 210, 211, 212, 213, 214, 215, 216, 217, 218, 219, 220, 221, 222, 544, 386, 387, 388, 338, 545, 546, 547, 548, 223, 312, 313, 314, 31, 315, 316, 90, 317, 318, 319, 320, 321, 322, 323, 324, 325, 326, 327, 92, 328, 97, 98, 329, 330, 331, 332, 333, 334, 335, 336, 337, 59, 60, 61, 62, 64, 65, 66, 67, 339, 227, 261, 353, 354, 355, 27, 356, 357, 358, 359, 360, 78, 79, 80, 81, 82, 83, 361, 362, 363, 364, 365, 366, 367, 368, 369, 370, 371, 372, 373, 374, 375, 376, 377, 378, 379, 380, 72, 381, 382, 383, 385, 389, 390, 391, 392, 393, 394, 395, 396, 397, 398, 399, 400, 401, 402, 403, 404, 405, 406, 407, 408, 409, 410, 411, 412, 413, 414, 415, 416, 417, 418, 419, 420, 421, 422, 423, 424, 425, 426, 427, 428, 429, 287, 288, 875, 876, 877, 878, 879, 906, 897, 898, 915, 916, 917, 918, 919, 920, 921, 922, 923, 899, 900, 901, 902, 903, 904, 905, 907, 908, 909, 910, 911, 912, 913, 914] (by decide +kernel) (by decide +kernel)) (goodIn_sub (fun _ h => List.mem_append_left _ (List.mem_append_left _ (List.mem_append_right _ h))) (by decide +kernel))) (goodIn_sub (fun _ h => List.mem_append_left _ (List.mem_append_right _ h)) (by decide +kernel))
set_option maxRecDepth 20000 in
theorem gL_law_L_learn : GoodIn wsL_law (va_wsS RL 116 yL_learn wsL_learn) := goodIn_app (goodIn_of _ (by decide +kernel)) ggL_law_L_learn
set_option maxRecDepth 20000 in
theorem ggL_law_X8_learn : GoodIn wsL_law wsX8_learn := goodIn_r _ [552, 104, 232, 106, 553, 554, 555, 5, 556, 239, 240, 241, 236, 237, 238, 557, 558, 559, 560, 233, 234, 235, 242, 243, 244, 245, 246, 247, 248, 249, 250, 251, 252, 434, 435, 436, 437, 438, 105, 880, 881, 882, 883, 884, 885, 886, 887, 888, 889, 890, 891, 892, 893, 894, 895, 896] (by decide +kernel) (by decide +kernel)
set_option maxRecDepth 20000 in
theorem gL_law_X8_learn : GoodIn wsL_law (wsV RL 118 RX8 yX8_learn wsX8_learn) := goodIn_app (goodIn_of _ (by decide +kernel)) ggL_law_X8_learn
set_option maxRecDepth 20000 in
theorem ggL_law_L_forget : GoodIn wsL_law wsL_forget := goodIn_ca (goodIn_r _ [563, 446, 564, 565, 566, 2, 567, 451, 452, 24, 32, 20, 28, 453, 454, 455, 15, 456, 63, 42, 312, 313, 314, 31, 315, 316, 90, 317, 318, 319, 320, 321, 322, 323, 324, 325, 326, 327, 92, 328, 97, 98, 329, 330, 331, 332, 333, 334, 335, 336, 337, 59, 60, 61, 62, 338, 278, 279, 280, 64, 65, 66, 67, 339, 224, 225, 226, 568, 569, 570, 23, 571, 572, 573, 574, 575, 72, 384, 576, 577, 578, 579, 462, 580, 459, 460, 461, 353, 354, 355, 27, 356, 357, 358, 359, 360, 78, 79, 80, 81, 82, 83, 361, 362, 363, 364, 365, 366, 367, 129, 368, 369, 370, 371, 372, 373, 374, 375, 376, 377, 378, 379, 380, 381, 382, 383, 385, 386, 387, 388, 389, 390, 391, 392, 393, 394, 395, 396, 397, 398, 399, 400, 401, 402, 403, 404, 154, 155, 140, 156, 146, 157, 158, 159, 160, 151, 152, 405, 406, 407, 408, 147, 148, 149, 150, 409, 410, 163, 411, 412, 413, 414, 194, 415, 416, 197, 417, 418, 419, 177, 420, 421, 422, 423, 188, 189, 190, 424, 202, 203, 204, 205, 206, 207, 425, 426, 427, 428, 429, 287, 288, 875, 876, 877, 878, 879, 906, 897, 898, 915, 916, 917, 918, 919, 920, 921, 922, 923, 899, 900, 901, 902, 903, 904, 905, 907, 908, 909, 910, 911, 912, 913, 914] (by decide +kernel) (by decide +kernel)) (goodIn_sub (fun _ h => List.mem_append_right _ h) (by decide +kernel))
set_option maxRecDepth 20000 in
theorem gL_law_L_forget : GoodIn wsL_law (va_wsS RL 119 yL_forget wsL_forget) := goodIn_app (goodIn_of _ (by decide +kernel)) ggL_law_L_forget
set_option maxRecDepth 20000 in
theorem ggL_law_X8_forget : GoodIn wsL_law wsX8_forget := goodIn_r _ [584, 104, 585, 586, 587, 5, 588, 239, 240, 241, 248, 249, 250, 251, 252, 434, 435, 436, 437, 438, 105, 880, 881, 882, 883, 884, 885, 886, 887, 888, 889, 890, 891, 892, 893, 894, 895, 896] (by decide +kernel) (by decide +kernel)
set_option maxRecDepth 20000 in
theorem gL_law_X8_forget : GoodIn wsL_law (wsV RL 121 RX8 yX8_forget wsX8_forget) := goodIn_app (goodIn_of _ (by decide +kernel)) ggL_law_X8_forget
set_option maxRecDepth 20000 in
theorem ggL_law_X7_words : GoodIn wsL_law wsX7_words := goodIn_r _ [548, 24, 223, 224, 225, 15, 226, 63, 875, 876, 877, 878, 879, 906, 897, 898] (by decide +kernel) (by decide +kernel)
set_option maxRecDepth 20000 in
theorem gL_law_X7_words : GoodIn wsL_law (wsV RL 122 RX7 yX7_words wsX7_words) := goodIn_app (goodIn_of _ (by decide +kernel)) ggL_law_X7_words
set_option maxRecDepth 20000 in
theorem ggL_law_X8_words : GoodIn wsL_law wsX8_words := goodIn_r _ [593, 252, 104, 880, 881, 882, 883, 884, 885, 886, 887, 888, 889, 890, 891, 892, 893, 894, 895, 896] (by decide +kernel) (by decide +kernel)
set_option maxRecDepth 20000 in
theorem gL_law_X8_words : GoodIn wsL_law (wsV RL 125 RX8 yX8_words wsX8_words) := goodIn_app (goodIn_of _ (by decide +kernel)) ggL_law_X8_words
set_option maxRecDepth 20000 in
theorem ggL_law_L_wordLetter : GoodIn wsL_law wsL_wordLetter := goodIn_ca (goodIn_r _ [596, 446, 597, 598, 599, 2, 600, 451, 452, 24, 453, 454, 455, 15, 456, 63, 42, 601, 573, 574, 23, 575, 72, 384, 278, 279, 280, 602, 401, 129, 402, 403, 367, 368, 404, 154, 155, 140, 156, 146, 157, 158, 159, 160, 151, 152, 405, 406, 407, 408, 147, 148, 149, 150, 409, 410, 163, 411, 412, 413, 414, 194, 415, 416, 197, 417, 418, 419, 177, 420, 421, 422, 423, 188, 189, 190, 424, 202, 203, 204, 205, 206, 207, 875, 876, 877, 878, 879, 906, 897, 898] (by decide +kernel) (by decide +kernel)) (goodIn_sub (fun _ h => List.mem_append_right _ h) (by decide +kernel))
set_option maxRecDepth 20000 in
theorem gL_law_L_wordLetter : GoodIn wsL_law (va_wsS RL 126 yL_wordLetter wsL_wordLetter) := goodIn_app (goodIn_of _ (by decide +kernel)) ggL_law_L_wordLetter
set_option maxRecDepth 20000 in
theorem ggL_law_X8_wordLetter : GoodIn wsL_law wsX8_wordLetter := goodIn_r _ [606, 104, 585, 586, 587, 5, 588, 239, 240, 241, 248, 249, 250, 251, 252, 880, 881, 882, 883, 884, 885, 886, 887, 888, 889, 890, 891, 892, 893, 894, 895, 896] (by decide +kernel) (by decide +kernel)
set_option maxRecDepth 20000 in
theorem gL_law_X8_wordLetter : GoodIn wsL_law (wsV RL 128 RX8 yX8_wordLetter wsX8_wordLetter) := goodIn_app (goodIn_of _ (by decide +kernel)) ggL_law_X8_wordLetter
set_option maxRecDepth 20000 in
theorem ggL_law_L_uses : GoodIn wsL_law wsL_uses := goodIn_ca (goodIn_r _ [609, 446, 610, 611, 612, 2, 613, 451, 452, 24, 28, 453, 454, 455, 15, 456, 63, 42, 511, 512, 513, 514, 338, 278, 279, 280, 875, 876, 877, 878, 879, 906, 907, 908, 909, 910, 911, 912, 913, 914, 897, 898] (by decide +kernel) (by decide +kernel)) (goodIn_sub (fun _ h => List.mem_append_right _ h) (by decide +kernel))
set_option maxRecDepth 20000 in
theorem gL_law_L_uses : GoodIn wsL_law (va_wsS RL 129 yL_uses wsL_uses) := goodIn_app (goodIn_of _ (by decide +kernel)) ggL_law_L_uses
set_option maxRecDepth 20000 in
theorem ggL_law_X8_uses : GoodIn wsL_law wsX8_uses := goodIn_r _ [617, 585, 586, 587, 5, 588, 104, 239, 240, 241, 248, 249, 250, 251, 252, 618, 619, 620, 621, 112, 111, 622, 623, 624, 625, 626, 627, 628, 629, 630, 108, 109, 110, 631, 632, 633, 634, 635, 636, 637, 638, 639, 640, 641, 245, 246, 247, 642, 643, 644, 645, 107, 646, 647, 648, 649, 880, 881, 882, 883, 884, 885, 886, 887, 888, 889, 890, 891, 892, 893, 894, 895, 896] (by decide +kernel) (by decide +kernel)
set_option maxRecDepth 20000 in
theorem gL_law_X8_uses : GoodIn wsL_law (wsV RL 131 RX8 yX8_uses wsX8_uses) := goodIn_app (goodIn_of _ (by decide +kernel)) ggL_law_X8_uses
set_option maxRecDepth 20000 in
theorem ggL_law_X7_printedLength : GoodIn wsL_law wsX7_printedLength := goodIn_r _ [653, 28, 223, 224, 225, 15, 226, 63, 875, 876, 877, 878, 879, 907, 908, 909, 910, 911, 912, 913, 914, 897, 898] (by decide +kernel) (by decide +kernel)
set_option maxRecDepth 20000 in
theorem gL_law_X7_printedLength : GoodIn wsL_law (wsV RL 132 RX7 yX7_printedLength wsX7_printedLength) := goodIn_app (goodIn_of _ (by decide +kernel)) ggL_law_X7_printedLength
set_option maxRecDepth 20000 in
theorem ggL_law_X8_printedLength : GoodIn wsL_law wsX8_printedLength := goodIn_r _ [657, 252, 622, 618, 619, 620, 5, 621, 112, 104, 111, 623, 624, 625, 626, 239, 240, 241, 627, 628, 629, 630, 108, 109, 110, 631, 632, 633, 634, 635, 636, 637, 638, 639, 640, 641, 245, 246, 247, 642, 643, 644, 645, 107, 880, 881, 882, 883, 884, 885, 886, 887, 888, 889, 890, 891, 892, 893, 894, 895, 896] (by decide +kernel) (by decide +kernel)
set_option maxRecDepth 20000 in
theorem gL_law_X8_printedLength : GoodIn wsL_law (wsV RL 135 RX8 yX8_printedLength wsX8_printedLength) := goodIn_app (goodIn_of _ (by decide +kernel)) ggL_law_X8_printedLength
set_option maxRecDepth 20000 in
theorem ggL_law_L_printed : GoodIn wsL_law wsL_printed := goodIn_ca (goodIn_r _ [660, 446, 661, 662, 663, 2, 664, 451, 452, 28, 453, 454, 455, 15, 456, 63, 42, 457, 278, 279, 280, 875, 876, 877, 878, 879, 907, 908, 909, 910, 911, 912, 913, 914, 897, 898] (by decide +kernel) (by decide +kernel)) (goodIn_sub (fun _ h => List.mem_append_right _ h) (by decide +kernel))
