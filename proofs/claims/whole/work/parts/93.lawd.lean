set_option maxRecDepth 20000 in
theorem ggL_law_X7_gift : GoodIn wsL_law wsX7_gift := goodIn_r _ [789, 491, 126, 147, 148, 5, 149, 538, 539, 540, 790, 791, 792, 793, 451, 452, 453, 454, 91, 90, 686, 687, 688, 689, 600, 601, 602, 603, 604, 605, 606, 607, 608, 609, 610, 611, 612, 127, 95, 94, 128, 98, 455, 456, 457, 458, 96, 459, 460, 461, 462, 613, 614, 615, 616, 617, 618, 619, 620, 97, 99, 621, 622, 623, 624, 625, 626, 627, 977, 978, 979, 980, 981, 982, 983, 984, 985, 986, 987, 988, 989, 990, 991, 992, 993, 994, 995, 996, 997, 998, 999, 1000, 1001, 1002, 1003, 1004, 1005, 1006, 1007, 1008, 1009, 1010, 1011, 1012, 1013, 1014, 1015] (by decide +kernel) (by decide +kernel)
set_option maxRecDepth 20000 in
theorem gL_law_X7_gift : GoodIn wsL_law (wsV RL 121 RX7 yX7_gift wsX7_gift) := goodIn_app (goodIn_of _ (by decide +kernel)) ggL_law_X7_gift
set_option maxRecDepth 20000 in
theorem ggL_law_X6_told : GoodIn wsL_law wsX6_told := goodIn_r _ [797, 28, 23, 19, 408, 30, 798, 311, 312, 313, 390, 409, 410, 411, 2, 412, 133, 134, 135, 314, 315, 316, 22, 317, 318, 61, 319, 62, 63, 64, 65, 320, 66, 67, 321, 322, 670, 671, 672, 673, 561, 562, 563, 564, 512, 513, 565, 566, 567, 568, 569, 570, 571, 572, 442, 573, 438, 439, 440, 441, 574, 434, 435, 436, 575, 576, 577, 578, 579, 580, 581, 582, 583, 584, 585, 586, 587, 588, 589, 590, 591, 592, 593, 594, 799, 800, 801, 802, 508, 509, 510, 511, 968, 969, 970, 971, 972, 973, 974, 975, 976, 1036, 1037, 1038, 1039, 1040, 1041, 1042, 1043, 1044, 1045, 1046, 1028, 1029, 1030, 1031, 1032, 1033, 1034, 1035] (by decide +kernel) (by decide +kernel)
set_option maxRecDepth 20000 in
theorem gL_law_X6_told : GoodIn wsL_law (wsV RL 122 RX6 yX6_told wsX6_told) := goodIn_app (goodIn_of _ (by decide +kernel)) ggL_law_X6_told
set_option maxRecDepth 20000 in
theorem ggL_law_X7_told : GoodIn wsL_law wsX7_told := goodIn_r _ [806, 126, 108, 417, 418, 419, 5, 420, 147, 148, 149, 538, 539, 540, 790, 791, 792, 793, 451, 452, 453, 454, 91, 90, 686, 687, 688, 689, 600, 601, 602, 603, 604, 605, 606, 607, 608, 609, 610, 611, 612, 127, 95, 94, 128, 98, 455, 456, 457, 458, 96, 459, 460, 461, 462, 613, 614, 615, 616, 617, 618, 619, 620, 97, 99, 621, 622, 623, 624, 625, 626, 627, 518, 519, 520, 521, 522, 523, 524, 977, 978, 979, 980, 981, 982, 983, 984, 985, 986, 987, 988, 989, 990, 991, 992, 993, 994, 995, 996, 997, 998, 999, 1000, 1001, 1002, 1003, 1004, 1005, 1006, 1007, 1008, 1009, 1010, 1011, 1012, 1013, 1014, 1015] (by decide +kernel) (by decide +kernel)
set_option maxRecDepth 20000 in
theorem gL_law_X7_told : GoodIn wsL_law (wsV RL 125 RX7 yX7_told wsX7_told) := goodIn_app (goodIn_of _ (by decide +kernel)) ggL_law_X7_told
set_option maxRecDepth 20000 in
theorem ggL_law_X6_whisper : GoodIn wsL_law wsX6_whisper := goodIn_r _ [810, 23, 396, 390, 133, 134, 2, 135, 666, 667, 668, 669, 28, 19, 314, 315, 316, 22, 317, 318, 61, 319, 311, 312, 313, 62, 63, 64, 65, 320, 66, 67, 321, 322, 670, 671, 672, 673, 561, 562, 563, 564, 512, 513, 565, 566, 567, 568, 569, 570, 571, 572, 442, 573, 438, 439, 440, 441, 574, 434, 435, 436, 575, 576, 577, 578, 579, 580, 581, 582, 583, 584, 585, 586, 587, 588, 589, 590, 591, 592, 593, 594, 799, 800, 801, 802, 508, 509, 510, 511, 968, 969, 970, 971, 972, 973, 974, 975, 976, 1036, 1037, 1038, 1039, 1040, 1041, 1042, 1043, 1044, 1045, 1046, 1028, 1029, 1030, 1031, 1032, 1033, 1034, 1035] (by decide +kernel) (by decide +kernel)
set_option maxRecDepth 20000 in
theorem gL_law_X6_whisper : GoodIn wsL_law (wsV RL 126 RX6 yX6_whisper wsX6_whisper) := goodIn_app (goodIn_of _ (by decide +kernel)) ggL_law_X6_whisper
set_option maxRecDepth 20000 in
theorem ggL_law_X7_whisper : GoodIn wsL_law wsX7_whisper := goodIn_r _ [814, 126, 538, 539, 5, 540, 147, 148, 149, 790, 791, 792, 793, 451, 452, 453, 454, 91, 90, 686, 687, 688, 689, 600, 601, 602, 603, 604, 605, 606, 607, 608, 609, 610, 611, 612, 127, 95, 94, 128, 98, 455, 456, 457, 458, 96, 459, 460, 461, 462, 613, 614, 615, 616, 617, 618, 619, 620, 97, 99, 621, 622, 623, 624, 625, 626, 627, 518, 519, 520, 521, 522, 523, 524, 977, 978, 979, 980, 981, 982, 983, 984, 985, 986, 987, 988, 989, 990, 991, 992, 993, 994, 995, 996, 997, 998, 999, 1000, 1001, 1002, 1003, 1004, 1005, 1006, 1007, 1008, 1009, 1010, 1011, 1012, 1013, 1014, 1015] (by decide +kernel) (by decide +kernel)
set_option maxRecDepth 20000 in
theorem gL_law_X7_whisper : GoodIn wsL_law (wsV RL 129 RX7 yX7_whisper wsX7_whisper) := goodIn_app (goodIn_of _ (by decide +kernel)) ggL_law_X7_whisper
set_option maxRecDepth 20000 in
theorem ggL_law_X6_note : GoodIn wsL_law wsX6_note := goodIn_r _ [818, 23, 395, 27, 409, 410, 411, 2, 412, 390, 133, 134, 135, 819, 820, 821, 26, 822, 823, 71, 72, 73, 968, 969, 970, 971, 972, 973, 974, 975, 976, 1036, 1037, 1038, 1039, 1040, 1041, 1042, 1043, 1044, 1045, 1046, 1047, 1048, 1049, 1050] (by decide +kernel) (by decide +kernel)
set_option maxRecDepth 20000 in
theorem gL_law_X6_note : GoodIn wsL_law (wsV RL 130 RX6 yX6_note wsX6_note) := goodIn_app (goodIn_of _ (by decide +kernel)) ggL_law_X6_note
set_option maxRecDepth 20000 in
theorem ggL_law_X7_note : GoodIn wsL_law wsX7_note := goodIn_r _ [827, 537, 90, 417, 418, 419, 5, 420, 126, 147, 148, 149, 522, 523, 524, 977, 978, 979, 980, 981, 982, 983, 984, 985, 986, 987, 988, 989, 990, 991, 992, 993, 994, 995, 996, 997, 998, 999, 1000, 1001, 1002, 1003, 1004, 1005, 1006, 1007, 1008, 1009, 1010, 1011, 1012, 1013, 1014, 1015] (by decide +kernel) (by decide +kernel)
set_option maxRecDepth 20000 in
theorem gL_law_X7_note : GoodIn wsL_law (wsV RL 134 RX7 yX7_note wsX7_note) := goodIn_app (goodIn_of _ (by decide +kernel)) ggL_law_X7_note
set_option maxRecDepth 20000 in
theorem ggL_law_X6_forget : GoodIn wsL_law wsX6_forget := goodIn_r _ [831, 27, 166, 133, 134, 2, 135, 968, 969, 970, 971, 972, 973, 974, 975, 976, 1047, 1048, 1049, 1050] (by decide +kernel) (by decide +kernel)
set_option maxRecDepth 20000 in
theorem gL_law_X6_forget : GoodIn wsL_law (wsV RL 135 RX6 yX6_forget wsX6_forget) := goodIn_app (goodIn_of _ (by decide +kernel)) ggL_law_X6_forget
set_option maxRecDepth 20000 in
theorem ggL_law_X7_forget : GoodIn wsL_law wsX7_forget := goodIn_r _ [835, 90, 147, 148, 5, 149, 541, 542, 543, 544, 977, 978, 979, 980, 981, 982, 983, 984, 985, 986, 987, 988, 989, 990, 991, 992, 993, 994, 995, 996, 997, 998, 999, 1000, 1001, 1002, 1003, 1004, 1005, 1006, 1007, 1008, 1009, 1010, 1011, 1012, 1013, 1014, 1015] (by decide +kernel) (by decide +kernel)
set_option maxRecDepth 20000 in
theorem gL_law_X7_forget : GoodIn wsL_law (wsV RL 138 RX7 yX7_forget wsX7_forget) := goodIn_app (goodIn_of _ (by decide +kernel)) ggL_law_X7_forget
set_option maxRecDepth 20000 in
theorem ggL_law_X6_fits : GoodIn wsL_law wsX6_fits := goodIn_r _ [839, 133, 134, 2, 135, 658, 659, 660, 661, 19, 391, 662, 663, 664, 665, 23, 396, 426, 395, 840, 841, 842, 843, 28, 27, 640, 314, 315, 316, 22, 317, 318, 61, 319, 311, 312, 313, 62, 63, 64, 65, 320, 66, 67, 321, 322, 641, 562, 563, 564, 512, 513, 565, 566, 567, 568, 569, 570, 571, 572, 442, 573, 438, 439, 440, 441, 574, 434, 435, 436, 575, 576, 577, 578, 579, 580, 581, 582, 583, 584, 585, 586, 587, 588, 589, 590, 591, 592, 593, 594, 844, 845, 846, 26, 847, 823, 72, 71, 73, 968, 969, 970, 971, 972, 973, 974, 975, 976, 1028, 1029, 1030, 1031, 1032, 1033, 1034, 1035, 1036, 1037, 1038, 1039, 1040, 1041, 1042, 1043, 1044, 1045, 1046, 1047, 1048, 1049, 1050] (by decide +kernel) (by decide +kernel)
set_option maxRecDepth 20000 in
theorem gL_law_X6_fits : GoodIn wsL_law (wsV RL 139 RX6 yX6_fits wsX6_fits) := goodIn_app (goodIn_of _ (by decide +kernel)) ggL_law_X6_fits
set_option maxRecDepth 20000 in
theorem ggL_law_X7_fits : GoodIn wsL_law wsX7_fits := goodIn_r _ [851, 353, 127, 147, 148, 5, 149, 852, 853, 854, 855, 91, 90, 612, 678, 679, 680, 681, 95, 682, 683, 684, 685, 451, 452, 453, 454, 686, 687, 688, 689, 608, 609, 610, 611, 94, 128, 98, 126, 455, 456, 457, 458, 96, 459, 460, 461, 462, 613, 614, 615, 616, 617, 618, 619, 620, 97, 99, 621, 622, 623, 977, 978, 979, 980, 981, 982, 983, 984, 985, 986, 987, 988, 989, 990, 991, 992, 993, 994, 995, 996, 997, 998, 999, 1000, 1001, 1002, 1003, 1004, 1005, 1006, 1007, 1008, 1009, 1010, 1011, 1012, 1013, 1014, 1015] (by decide +kernel) (by decide +kernel)
set_option maxRecDepth 20000 in
theorem gL_law_X7_fits : GoodIn wsL_law (wsV RL 142 RX7 yX7_fits wsX7_fits) := goodIn_app (goodIn_of _ (by decide +kernel)) ggL_law_X7_fits
set_option maxRecDepth 20000 in
theorem ggL_law_X6_drift : GoodIn wsL_law wsX6_drift := goodIn_r _ [859, 23, 390, 28, 860, 19, 133, 134, 2, 135, 314, 315, 316, 22, 317, 318, 61, 319, 311, 312, 313, 62, 63, 64, 65, 320, 66, 67, 321, 322, 785, 584, 585, 586, 579, 580, 581, 582, 641, 562, 563, 564, 512, 513, 565, 566, 567, 568, 569, 570, 571, 572, 442, 573, 438, 439, 440, 441, 574, 434, 435, 436, 575, 576, 577, 578, 583, 587, 588, 589, 590, 591, 592, 593, 594, 861, 862, 863, 864, 968, 969, 970, 971, 972, 973, 974, 975, 976, 1036, 1037, 1038, 1039, 1040, 1041, 1042, 1043, 1044, 1045, 1046, 1028, 1029, 1030, 1031, 1032, 1033, 1034, 1035] (by decide +kernel) (by decide +kernel)
set_option maxRecDepth 20000 in
theorem gL_law_X6_drift : GoodIn wsL_law (wsV RL 143 RX6 yX6_drift wsX6_drift) := goodIn_app (goodIn_of _ (by decide +kernel)) ggL_law_X6_drift
set_option maxRecDepth 20000 in
theorem ggL_law_X7_drift : GoodIn wsL_law wsX7_drift := goodIn_r _ [868, 599, 126, 869, 91, 147, 148, 5, 149, 538, 539, 540, 451, 452, 453, 454, 90, 459, 460, 461, 462, 621, 622, 623, 608, 609, 610, 611, 612, 127, 95, 94, 128, 98, 455, 456, 457, 458, 96, 613, 614, 615, 616, 617, 618, 619, 620, 97, 99, 624, 625, 626, 627, 744, 745, 746, 747, 977, 978, 979, 980, 981, 982, 983, 984, 985, 986, 987, 988, 989, 990, 991, 992, 993, 994, 995, 996, 997, 998, 999, 1000, 1001, 1002, 1003, 1004, 1005, 1006, 1007, 1008, 1009, 1010, 1011, 1012, 1013, 1014, 1015] (by decide +kernel) (by decide +kernel)
set_option maxRecDepth 20000 in
theorem gL_law_X7_drift : GoodIn wsL_law (wsV RL 146 RX7 yX7_drift wsX7_drift) := goodIn_app (goodIn_of _ (by decide +kernel)) ggL_law_X7_drift
set_option maxRecDepth 20000 in
theorem ggL_law_X6_keep : GoodIn wsL_law wsX6_keep := goodIn_r _ [873, 32, 167, 874, 23, 875, 27, 133, 134, 2, 135, 314, 315, 316, 22, 317, 318, 61, 319, 311, 312, 313, 62, 63, 64, 65, 320, 66, 67, 321, 322, 876, 877, 878, 26, 879, 823, 71, 880, 72, 73, 968, 969, 970, 971, 972, 973, 974, 975, 976, 1051, 1052, 1053, 1036, 1037, 1038, 1039, 1040, 1041, 1042, 1043, 1044, 1045, 1046, 1047, 1048, 1049, 1050] (by decide +kernel) (by decide +kernel)
set_option maxRecDepth 20000 in
theorem gL_law_X6_keep : GoodIn wsL_law (wsV RL 147 RX6 yX6_keep wsX6_keep) := goodIn_app (goodIn_of _ (by decide +kernel)) ggL_law_X6_keep
set_option maxRecDepth 20000 in
theorem ggL_law_X7_keep : GoodIn wsL_law wsX7_keep := goodIn_r _ [884, 93, 147, 148, 5, 149, 522, 523, 524, 885, 886, 887, 888, 90, 977, 978, 979, 980, 981, 982, 983, 984, 985, 986, 987, 988, 989, 990, 991, 992, 993, 994, 995, 996, 997, 998, 999, 1000, 1001, 1002, 1003, 1004, 1005, 1006, 1007, 1008, 1009, 1010, 1011, 1012, 1013, 1014, 1015] (by decide +kernel) (by decide +kernel)
set_option maxRecDepth 20000 in
theorem gL_law_X7_keep : GoodIn wsL_law (wsV RL 150 RX7 yX7_keep wsX7_keep) := goodIn_app (goodIn_of _ (by decide +kernel)) ggL_law_X7_keep
set_option maxRecDepth 20000 in
theorem ggL_law_X6_back : GoodIn wsL_law wsX6_back := goodIn_r _ [892, 32, 167, 23, 874, 27, 875, 395, 133, 134, 2, 135, 314, 315, 316, 22, 317, 318, 61, 319, 311, 312, 313, 62, 63, 64, 65, 320, 66, 67, 321, 322, 876, 877, 878, 26, 879, 823, 71, 880, 72, 73, 968, 969, 970, 971, 972, 973, 974, 975, 976, 1051, 1052, 1053, 1036, 1037, 1038, 1039, 1040, 1041, 1042, 1043, 1044, 1045, 1046, 1047, 1048, 1049, 1050] (by decide +kernel) (by decide +kernel)
set_option maxRecDepth 20000 in
theorem gL_law_X6_back : GoodIn wsL_law (wsV RL 151 RX6 yX6_back wsX6_back) := goodIn_app (goodIn_of _ (by decide +kernel)) ggL_law_X6_back
set_option maxRecDepth 20000 in
theorem ggL_law_X7_back : GoodIn wsL_law wsX7_back := goodIn_r _ [896, 93, 90, 147, 148, 5, 149, 885, 886, 887, 888, 977, 978, 979, 980, 981, 982, 983, 984, 985, 986, 987, 988, 989, 990, 991, 992, 993, 994, 995, 996, 997, 998, 999, 1000, 1001, 1002, 1003, 1004, 1005, 1006, 1007, 1008, 1009, 1010, 1011, 1012, 1013, 1014, 1015] (by decide +kernel) (by decide +kernel)
set_option maxRecDepth 20000 in
theorem gL_law_X7_back : GoodIn wsL_law (wsV RL 154 RX7 yX7_back wsX7_back) := goodIn_app (goodIn_of _ (by decide +kernel)) ggL_law_X7_back
set_option maxRecDepth 20000 in
theorem ggL_law_X6_sheet : GoodIn wsL_law wsX6_sheet := goodIn_r _ [900, 34, 133, 134, 2, 135, 901, 902, 903, 38, 904, 84, 905, 85, 906, 907, 908, 909, 968, 969, 970, 971, 972, 973, 974, 975, 976, 1054, 1055, 1056] (by decide +kernel) (by decide +kernel)
set_option maxRecDepth 20000 in
theorem gL_law_X6_sheet : GoodIn wsL_law (wsV RL 155 RX6 yX6_sheet wsX6_sheet) := goodIn_app (goodIn_of _ (by decide +kernel)) ggL_law_X6_sheet
set_option maxRecDepth 20000 in
theorem ggL_law_X7_sheet : GoodIn wsL_law wsX7_sheet := goodIn_r _ [913, 109, 110, 111, 914, 915, 5, 916, 353, 474, 147, 148, 149, 977, 978, 979, 980, 981, 982, 983, 984, 985, 986, 987, 988, 989, 990, 991, 992, 993, 994, 995, 996, 997, 998, 999, 1000, 1001, 1002, 1003, 1004, 1005, 1006, 1007, 1008, 1009, 1010, 1011, 1012, 1013, 1014, 1015] (by decide +kernel) (by decide +kernel)
set_option maxRecDepth 20000 in
theorem gL_law_X7_sheet : GoodIn wsL_law (wsV RL 158 RX7 yX7_sheet wsX7_sheet) := goodIn_app (goodIn_of _ (by decide +kernel)) ggL_law_X7_sheet
set_option maxRecDepth 20000 in
theorem ggL_law_X6_lay : GoodIn wsL_law wsX6_lay := goodIn_r _ [920, 34, 921, 133, 134, 2, 135, 922, 923, 924, 38, 925, 84, 905, 926, 927, 928, 929, 85, 968, 969, 970, 971, 972, 973, 974, 975, 976, 1054, 1055, 1056] (by decide +kernel) (by decide +kernel)
set_option maxRecDepth 20000 in
theorem gL_law_X6_lay : GoodIn wsL_law (wsV RL 159 RX6 yX6_lay wsX6_lay) := goodIn_app (goodIn_of _ (by decide +kernel)) ggL_law_X6_lay
set_option maxRecDepth 20000 in
theorem ggL_law_X7_lay : GoodIn wsL_law wsX7_lay := goodIn_r _ [933, 109, 110, 111, 914, 915, 5, 916, 353, 474, 147, 148, 149, 977, 978, 979, 980, 981, 982, 983, 984, 985, 986, 987, 988, 989, 990, 991, 992, 993, 994, 995, 996, 997, 998, 999, 1000, 1001, 1002, 1003, 1004, 1005, 1006, 1007, 1008, 1009, 1010, 1011, 1012, 1013, 1014, 1015] (by decide +kernel) (by decide +kernel)
set_option maxRecDepth 20000 in
theorem gL_law_X7_lay : GoodIn wsL_law (wsV RL 162 RX7 yX7_lay wsX7_lay) := goodIn_app (goodIn_of _ (by decide +kernel)) ggL_law_X7_lay
set_option maxRecDepth 20000 in
theorem ggL_law_X6_read : GoodIn wsL_law wsX6_read := goodIn_r _ [937, 34, 28, 23, 938, 939, 133, 134, 2, 135, 314, 315, 316, 22, 317, 318, 61, 319, 311, 312, 313, 62, 63, 64, 65, 320, 66, 67, 321, 322, 940, 941, 942, 38, 943, 944, 923, 924, 925, 84, 905, 496, 497, 498, 499, 968, 969, 970, 971, 972, 973, 974, 975, 976, 1054, 1055, 1056, 1036, 1037, 1038, 1039, 1040, 1041, 1042, 1043, 1044, 1045, 1046] (by decide +kernel) (by decide +kernel)
set_option maxRecDepth 20000 in
theorem gL_law_X6_read : GoodIn wsL_law (wsV RL 163 RX6 yX6_read wsX6_read) := goodIn_app (goodIn_of _ (by decide +kernel)) ggL_law_X6_read
set_option maxRecDepth 20000 in
theorem ggL_law_X7_read : GoodIn wsL_law wsX7_read := goodIn_r _ [948, 599, 112, 90, 109, 110, 111, 949, 914, 915, 5, 916, 353, 474, 147, 148, 149, 950, 501, 502, 503, 491, 417, 418, 419, 420, 126, 977, 978, 979, 980, 981, 982, 983, 984, 985, 986, 987, 988, 989, 990, 991, 992, 993, 994, 995, 996, 997, 998, 999, 1000, 1001, 1002, 1003, 1004, 1005, 1006, 1007, 1008, 1009, 1010, 1011, 1012, 1013, 1014, 1015] (by decide +kernel) (by decide +kernel)
set_option maxRecDepth 20000 in
theorem gL_law_X7_read : GoodIn wsL_law (wsV RL 167 RX7 yX7_read wsX7_read) := goodIn_app (goodIn_of _ (by decide +kernel)) ggL_law_X7_read
set_option maxRecDepth 20000 in
theorem ggL_law_X6_torn : GoodIn wsL_law wsX6_torn := goodIn_r _ [954, 939, 968, 969, 970, 971, 972, 973, 974, 975, 976] (by decide +kernel) (by decide +kernel)
set_option maxRecDepth 20000 in
theorem gL_law_X6_torn : GoodIn wsL_law (wsV RL 168 RX6 yX6_torn wsX6_torn) := goodIn_app (goodIn_of _ (by decide +kernel)) ggL_law_X6_torn
set_option maxRecDepth 20000 in
theorem ggL_law_X7_torn : GoodIn wsL_law wsX7_torn := goodIn_r _ [958, 949, 977, 978, 979, 980, 981, 982, 983, 984, 985, 986, 987, 988, 989, 990, 991, 992, 993, 994, 995, 996, 997, 998, 999, 1000, 1001, 1002, 1003, 1004, 1005, 1006, 1007, 1008, 1009, 1010, 1011, 1012, 1013, 1014, 1015] (by decide +kernel) (by decide +kernel)
set_option maxRecDepth 20000 in
theorem gL_law_X7_torn : GoodIn wsL_law (wsV RL 171 RX7 yX7_torn wsX7_torn) := goodIn_app (goodIn_of _ (by decide +kernel)) ggL_law_X7_torn
set_option maxRecDepth 20000 in
theorem ggL_law_X6_count : GoodIn wsL_law wsX6_count := goodIn_r _ [962, 23, 27, 166, 32, 167, 15, 154, 34, 921, 963, 861, 862, 863, 22, 864, 318, 62, 728, 729, 730, 731, 63, 968, 969, 970, 971, 972, 973, 974, 975, 976, 1047, 1048, 1049, 1050, 1051, 1052, 1053, 1016, 1017, 1018, 1019, 1020, 1021, 1022, 1023, 1024, 1025, 1026, 1027, 1054, 1055, 1056, 1036, 1037, 1038, 1039, 1040, 1041, 1042, 1043, 1044, 1045, 1046] (by decide +kernel) (by decide +kernel)
set_option maxRecDepth 20000 in
theorem gL_law_X6_count : GoodIn wsL_law (wsV RL 172 RX6 yX6_count wsX6_count) := goodIn_app (goodIn_of _ (by decide +kernel)) ggL_law_X6_count
set_option maxRecDepth 20000 in
theorem ggL_law_X7_count : GoodIn wsL_law wsX7_count := goodIn_r _ [967, 90, 93, 146, 109, 110, 451, 452, 453, 5, 454, 91, 744, 745, 746, 747, 126, 459, 460, 461, 462, 522, 523, 524, 977, 978, 979, 980, 981, 982, 983, 984, 985, 986, 987, 988, 989, 990, 991, 992, 993, 994, 995, 996, 997, 998, 999, 1000, 1001, 1002, 1003, 1004, 1005, 1006, 1007, 1008, 1009, 1010, 1011, 1012, 1013, 1014, 1015] (by decide +kernel) (by decide +kernel)
set_option maxRecDepth 20000 in
theorem gL_law_X7_count : GoodIn wsL_law (wsV RL 175 RX7 yX7_count wsX7_count) := goodIn_app (goodIn_of _ (by decide +kernel)) ggL_law_X7_count
