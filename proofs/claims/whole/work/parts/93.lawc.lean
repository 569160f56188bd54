set_option maxRecDepth 20000 in
theorem gL_law_X6_law : GoodIn wsL_law (wsV RL 66 RX6 yX6_law wsX6_law) := goodIn_app (goodIn_of _ (by decide +kernel)) ggL_law_X6_law
set_option maxRecDepth 20000 in
theorem ggL_law_X7_law : GoodIn wsL_law wsX7_law := goodIn_r _ [536, 537, 491, 538, 539, 5, 540, 147, 148, 149, 541, 542, 543, 544, 90, 977, 978, 979, 980, 981, 982, 983, 984, 985, 986, 987, 988, 989, 990, 991, 992, 993, 994, 995, 996, 997, 998, 999, 1000, 1001, 1002, 1003, 1004, 1005, 1006, 1007, 1008, 1009, 1010, 1011, 1012, 1013, 1014, 1015] (by decide +kernel) (by decide +kernel)
set_option maxRecDepth 20000 in
theorem gL_law_X7_law : GoodIn wsL_law (wsV RL 69 RX7 yX7_law wsX7_law) := goodIn_app (goodIn_of _ (by decide +kernel)) ggL_law_X7_law
set_option maxRecDepth 20000 in
theorem ggL_law_X6_teach : GoodIn wsL_law wsX6_teach := goodIn_r _ [548, 23, 405, 409, 410, 411, 2, 412, 390, 133, 134, 135, 968, 969, 970, 971, 972, 973, 974, 975, 976, 1036, 1037, 1038, 1039, 1040, 1041, 1042, 1043, 1044, 1045, 1046] (by decide +kernel) (by decide +kernel)
set_option maxRecDepth 20000 in
theorem gL_law_X6_teach : GoodIn wsL_law (wsV RL 70 RX6 yX6_teach wsX6_teach) := goodIn_app (goodIn_of _ (by decide +kernel)) ggL_law_X6_teach
set_option maxRecDepth 20000 in
theorem ggL_law_X7_teach : GoodIn wsL_law wsX7_teach := goodIn_r _ [552, 353, 417, 418, 419, 5, 420, 126, 147, 148, 149, 541, 542, 543, 544, 90, 977, 978, 979, 980, 981, 982, 983, 984, 985, 986, 987, 988, 989, 990, 991, 992, 993, 994, 995, 996, 997, 998, 999, 1000, 1001, 1002, 1003, 1004, 1005, 1006, 1007, 1008, 1009, 1010, 1011, 1012, 1013, 1014, 1015] (by decide +kernel) (by decide +kernel)
set_option maxRecDepth 20000 in
theorem gL_law_X7_teach : GoodIn wsL_law (wsV RL 73 RX7 yX7_teach wsX7_teach) := goodIn_app (goodIn_of _ (by decide +kernel)) ggL_law_X7_teach
set_option maxRecDepth 20000 in
theorem ggL_law_X6_go : GoodIn wsL_law wsX6_go := goodIn_r _ [556, 23, 395, 19, 133, 134, 2, 135, 557, 558, 559, 22, 560, 561, 562, 563, 564, 322, 512, 513, 321, 565, 566, 567, 568, 569, 570, 571, 572, 442, 573, 438, 439, 440, 441, 65, 61, 574, 434, 435, 436, 320, 575, 576, 577, 578, 63, 579, 580, 581, 582, 583, 584, 585, 586, 62, 587, 588, 589, 590, 67, 64, 591, 592, 593, 594, 318, 66, 968, 969, 970, 971, 972, 973, 974, 975, 976, 1036, 1037, 1038, 1039, 1040, 1041, 1042, 1043, 1044, 1045, 1046, 1028, 1029, 1030, 1031, 1032, 1033, 1034, 1035] (by decide +kernel) (by decide +kernel)
set_option maxRecDepth 20000 in
theorem gL_law_X6_go : GoodIn wsL_law (wsV RL 74 RX6 yX6_go wsX6_go) := goodIn_app (goodIn_of _ (by decide +kernel)) ggL_law_X6_go
set_option maxRecDepth 20000 in
theorem ggL_law_X7_go : GoodIn wsL_law wsX7_go := goodIn_r _ [598, 599, 90, 147, 148, 5, 149, 451, 452, 453, 454, 91, 600, 601, 602, 603, 604, 605, 606, 607, 608, 609, 610, 611, 612, 127, 95, 94, 128, 98, 126, 455, 456, 457, 458, 96, 459, 460, 461, 462, 613, 614, 615, 616, 617, 618, 619, 620, 97, 99, 621, 622, 623, 624, 625, 626, 627, 525, 526, 527, 528, 977, 978, 979, 980, 981, 982, 983, 984, 985, 986, 987, 988, 989, 990, 991, 992, 993, 994, 995, 996, 997, 998, 999, 1000, 1001, 1002, 1003, 1004, 1005, 1006, 1007, 1008, 1009, 1010, 1011, 1012, 1013, 1014, 1015] (by decide +kernel) (by decide +kernel)
set_option maxRecDepth 20000 in
theorem gL_law_X7_go : GoodIn wsL_law (wsV RL 77 RX7 yX7_go wsX7_go) := goodIn_app (goodIn_of _ (by decide +kernel)) ggL_law_X7_go
set_option maxRecDepth 20000 in
theorem ggL_law_X6_ahead : GoodIn wsL_law wsX6_ahead := goodIn_r _ [631, 28, 23, 19, 406, 407, 408, 394, 409, 410, 411, 2, 412, 390, 133, 134, 135, 314, 315, 316, 22, 317, 318, 61, 319, 311, 312, 313, 62, 63, 64, 65, 320, 66, 67, 321, 322, 557, 558, 559, 560, 561, 562, 563, 564, 512, 513, 565, 566, 567, 568, 569, 570, 571, 572, 442, 573, 438, 439, 440, 441, 574, 434, 435, 436, 575, 576, 577, 578, 579, 580, 581, 582, 583, 584, 585, 586, 587, 588, 589, 590, 591, 592, 593, 594, 968, 969, 970, 971, 972, 973, 974, 975, 976, 1036, 1037, 1038, 1039, 1040, 1041, 1042, 1043, 1044, 1045, 1046, 1028, 1029, 1030, 1031, 1032, 1033, 1034, 1035] (by decide +kernel) (by decide +kernel)
set_option maxRecDepth 20000 in
theorem gL_law_X6_ahead : GoodIn wsL_law (wsV RL 78 RX6 yX6_ahead wsX6_ahead) := goodIn_app (goodIn_of _ (by decide +kernel)) ggL_law_X6_ahead
set_option maxRecDepth 20000 in
theorem ggL_law_X7_ahead : GoodIn wsL_law wsX7_ahead := goodIn_r _ [635, 599, 353, 90, 91, 417, 418, 419, 5, 420, 126, 147, 148, 149, 451, 452, 453, 454, 604, 605, 606, 607, 608, 609, 610, 611, 612, 127, 95, 94, 128, 98, 455, 456, 457, 458, 96, 459, 460, 461, 462, 613, 614, 615, 616, 617, 618, 619, 620, 97, 99, 621, 622, 623, 977, 978, 979, 980, 981, 982, 983, 984, 985, 986, 987, 988, 989, 990, 991, 992, 993, 994, 995, 996, 997, 998, 999, 1000, 1001, 1002, 1003, 1004, 1005, 1006, 1007, 1008, 1009, 1010, 1011, 1012, 1013, 1014, 1015] (by decide +kernel) (by decide +kernel)
set_option maxRecDepth 20000 in
theorem gL_law_X7_ahead : GoodIn wsL_law (wsV RL 81 RX7 yX7_ahead wsX7_ahead) := goodIn_app (goodIn_of _ (by decide +kernel)) ggL_law_X7_ahead
set_option maxRecDepth 20000 in
theorem ggL_law_X6_first : GoodIn wsL_law wsX6_first := goodIn_r _ [639, 28, 23, 19, 640, 395, 409, 410, 411, 2, 412, 390, 314, 315, 316, 22, 317, 318, 61, 319, 311, 312, 313, 62, 63, 64, 65, 320, 66, 67, 321, 322, 641, 562, 563, 564, 512, 513, 565, 566, 567, 568, 569, 570, 571, 572, 442, 573, 438, 439, 440, 441, 574, 434, 435, 436, 575, 576, 577, 578, 579, 580, 581, 582, 583, 584, 585, 586, 587, 588, 589, 590, 591, 592, 593, 594, 968, 969, 970, 971, 972, 973, 974, 975, 976, 1036, 1037, 1038, 1039, 1040, 1041, 1042, 1043, 1044, 1045, 1046, 1028, 1029, 1030, 1031, 1032, 1033, 1034, 1035] (by decide +kernel) (by decide +kernel)
set_option maxRecDepth 20000 in
theorem gL_law_X6_first : GoodIn wsL_law (wsV RL 82 RX6 yX6_first wsX6_first) := goodIn_app (goodIn_of _ (by decide +kernel)) ggL_law_X6_first
set_option maxRecDepth 20000 in
theorem ggL_law_X7_first : GoodIn wsL_law wsX7_first := goodIn_r _ [645, 612, 91, 417, 418, 419, 5, 420, 126, 147, 148, 149, 451, 452, 453, 454, 90, 608, 609, 610, 611, 127, 95, 94, 128, 98, 455, 456, 457, 458, 96, 459, 460, 461, 462, 613, 614, 615, 616, 617, 618, 619, 620, 97, 99, 621, 622, 623, 977, 978, 979, 980, 981, 982, 983, 984, 985, 986, 987, 988, 989, 990, 991, 992, 993, 994, 995, 996, 997, 998, 999, 1000, 1001, 1002, 1003, 1004, 1005, 1006, 1007, 1008, 1009, 1010, 1011, 1012, 1013, 1014, 1015] (by decide +kernel) (by decide +kernel)
set_option maxRecDepth 20000 in
theorem gL_law_X7_first : GoodIn wsL_law (wsV RL 85 RX7 yX7_first wsX7_first) := goodIn_app (goodIn_of _ (by decide +kernel)) ggL_law_X7_first
set_option maxRecDepth 20000 in
theorem ggL_law_X6_modest : GoodIn wsL_law wsX6_modest := goodIn_r _ [649, 28, 23, 19, 314, 315, 316, 22, 317, 318, 61, 319, 311, 312, 313, 62, 63, 64, 65, 320, 66, 67, 321, 322, 641, 562, 563, 564, 512, 513, 565, 566, 567, 568, 569, 570, 571, 572, 442, 573, 438, 439, 440, 441, 574, 434, 435, 436, 575, 576, 577, 578, 579, 580, 581, 582, 583, 584, 585, 586, 587, 588, 589, 590, 591, 592, 593, 594, 968, 969, 970, 971, 972, 973, 974, 975, 976, 1036, 1037, 1038, 1039, 1040, 1041, 1042, 1043, 1044, 1045, 1046, 1028, 1029, 1030, 1031, 1032, 1033, 1034, 1035] (by decide +kernel) (by decide +kernel)
set_option maxRecDepth 20000 in
theorem gL_law_X6_modest : GoodIn wsL_law (wsV RL 86 RX6 yX6_modest wsX6_modest) := goodIn_app (goodIn_of _ (by decide +kernel)) ggL_law_X6_modest
set_option maxRecDepth 20000 in
theorem ggL_law_X7_modest : GoodIn wsL_law wsX7_modest := goodIn_r _ [653, 612, 451, 452, 453, 5, 454, 91, 90, 608, 609, 610, 611, 127, 95, 94, 128, 98, 126, 455, 456, 457, 458, 96, 459, 460, 461, 462, 613, 614, 615, 616, 617, 618, 619, 620, 97, 99, 621, 622, 623, 522, 523, 524, 977, 978, 979, 980, 981, 982, 983, 984, 985, 986, 987, 988, 989, 990, 991, 992, 993, 994, 995, 996, 997, 998, 999, 1000, 1001, 1002, 1003, 1004, 1005, 1006, 1007, 1008, 1009, 1010, 1011, 1012, 1013, 1014, 1015] (by decide +kernel) (by decide +kernel)
set_option maxRecDepth 20000 in
theorem gL_law_X7_modest : GoodIn wsL_law (wsV RL 89 RX7 yX7_modest wsX7_modest) := goodIn_app (goodIn_of _ (by decide +kernel)) ggL_law_X7_modest
set_option maxRecDepth 20000 in
theorem ggL_law_X6_plan : GoodIn wsL_law wsX6_plan := goodIn_r _ [657, 658, 659, 660, 2, 661, 19, 391, 133, 134, 135, 662, 663, 664, 665, 23, 396, 426, 395, 666, 667, 668, 669, 28, 314, 315, 316, 22, 317, 318, 61, 319, 311, 312, 313, 62, 63, 64, 65, 320, 66, 67, 321, 322, 670, 671, 672, 673, 561, 562, 563, 564, 512, 513, 565, 566, 567, 568, 569, 570, 571, 572, 442, 573, 438, 439, 440, 441, 574, 434, 435, 436, 575, 576, 577, 578, 579, 580, 581, 582, 583, 584, 585, 586, 587, 588, 589, 590, 591, 592, 593, 594, 968, 969, 970, 971, 972, 973, 974, 975, 976, 1028, 1029, 1030, 1031, 1032, 1033, 1034, 1035, 1036, 1037, 1038, 1039, 1040, 1041, 1042, 1043, 1044, 1045, 1046] (by decide +kernel) (by decide +kernel)
set_option maxRecDepth 20000 in
theorem gL_law_X6_plan : GoodIn wsL_law (wsV RL 90 RX6 yX6_plan wsX6_plan) := goodIn_app (goodIn_of _ (by decide +kernel)) ggL_law_X6_plan
set_option maxRecDepth 20000 in
theorem ggL_law_X7_plan : GoodIn wsL_law wsX7_plan := goodIn_r _ [677, 127, 147, 148, 5, 149, 678, 679, 680, 681, 95, 90, 682, 683, 684, 685, 91, 451, 452, 453, 454, 686, 687, 688, 689, 600, 601, 602, 603, 604, 605, 606, 607, 608, 609, 610, 611, 612, 94, 128, 98, 126, 455, 456, 457, 458, 96, 459, 460, 461, 462, 613, 614, 615, 616, 617, 618, 619, 620, 97, 99, 621, 622, 623, 624, 625, 626, 627, 977, 978, 979, 980, 981, 982, 983, 984, 985, 986, 987, 988, 989, 990, 991, 992, 993, 994, 995, 996, 997, 998, 999, 1000, 1001, 1002, 1003, 1004, 1005, 1006, 1007, 1008, 1009, 1010, 1011, 1012, 1013, 1014, 1015] (by decide +kernel) (by decide +kernel)
set_option maxRecDepth 20000 in
theorem gL_law_X7_plan : GoodIn wsL_law (wsV RL 93 RX7 yX7_plan wsX7_plan) := goodIn_app (goodIn_of _ (by decide +kernel)) ggL_law_X7_plan
set_option maxRecDepth 20000 in
theorem ggL_law_X6_best : GoodIn wsL_law wsX6_best := goodIn_r _ [693, 23, 396, 133, 134, 2, 135, 666, 667, 668, 669, 28, 19, 314, 315, 316, 22, 317, 318, 61, 319, 311, 312, 313, 62, 63, 64, 65, 320, 66, 67, 321, 322, 670, 671, 672, 673, 561, 562, 563, 564, 512, 513, 565, 566, 567, 568, 569, 570, 571, 572, 442, 573, 438, 439, 440, 441, 574, 434, 435, 436, 575, 576, 577, 578, 579, 580, 581, 582, 583, 584, 585, 586, 587, 588, 589, 590, 591, 592, 593, 594, 658, 659, 660, 661, 391, 662, 663, 664, 665, 426, 395, 694, 695, 696, 697, 698, 699, 700, 701, 702, 703, 968, 969, 970, 971, 972, 973, 974, 975, 976, 1036, 1037, 1038, 1039, 1040, 1041, 1042, 1043, 1044, 1045, 1046, 1028, 1029, 1030, 1031, 1032, 1033, 1034, 1035] (by decide +kernel) (by decide +kernel)
set_option maxRecDepth 20000 in
theorem gL_law_X6_best : GoodIn wsL_law (wsV RL 94 RX6 yX6_best wsX6_best) := goodIn_app (goodIn_of _ (by decide +kernel)) ggL_law_X6_best
set_option maxRecDepth 20000 in
theorem ggL_law_X7_best : GoodIn wsL_law wsX7_best := goodIn_r _ [707, 708, 127, 538, 539, 5, 540, 147, 148, 149, 678, 679, 680, 681, 95, 90, 682, 683, 684, 685, 91, 451, 452, 453, 454, 686, 687, 688, 689, 600, 601, 602, 603, 604, 605, 606, 607, 608, 609, 610, 611, 612, 94, 128, 98, 126, 455, 456, 457, 458, 96, 459, 460, 461, 462, 613, 614, 615, 616, 617, 618, 619, 620, 97, 99, 621, 622, 623, 624, 625, 626, 627, 709, 710, 711, 977, 978, 979, 980, 981, 982, 983, 984, 985, 986, 987, 988, 989, 990, 991, 992, 993, 994, 995, 996, 997, 998, 999, 1000, 1001, 1002, 1003, 1004, 1005, 1006, 1007, 1008, 1009, 1010, 1011, 1012, 1013, 1014, 1015] (by decide +kernel) (by decide +kernel)
set_option maxRecDepth 20000 in
theorem gL_law_X7_best : GoodIn wsL_law (wsV RL 97 RX7 yX7_best wsX7_best) := goodIn_app (goodIn_of _ (by decide +kernel)) ggL_law_X7_best
set_option maxRecDepth 20000 in
theorem ggL_law_X6_save : GoodIn wsL_law wsX6_save := goodIn_r _ [715, 28, 408, 23, 409, 410, 411, 2, 412, 390, 658, 659, 660, 661, 19, 391, 662, 663, 664, 665, 396, 426, 395, 694, 695, 696, 697, 698, 699, 700, 701, 702, 703, 666, 667, 668, 669, 314, 315, 316, 22, 317, 318, 61, 319, 311, 312, 313, 62, 63, 64, 65, 320, 66, 67, 321, 322, 670, 671, 672, 673, 561, 562, 563, 564, 512, 513, 565, 566, 567, 568, 569, 570, 571, 572, 442, 573, 438, 439, 440, 441, 574, 434, 435, 436, 575, 576, 577, 578, 579, 580, 581, 582, 583, 584, 585, 586, 587, 588, 589, 590, 591, 592, 593, 594, 968, 969, 970, 971, 972, 973, 974, 975, 976, 1036, 1037, 1038, 1039, 1040, 1041, 1042, 1043, 1044, 1045, 1046, 1028, 1029, 1030, 1031, 1032, 1033, 1034, 1035] (by decide +kernel) (by decide +kernel)
set_option maxRecDepth 20000 in
theorem gL_law_X6_save : GoodIn wsL_law (wsV RL 98 RX6 yX6_save wsX6_save) := goodIn_app (goodIn_of _ (by decide +kernel)) ggL_law_X6_save
set_option maxRecDepth 20000 in
theorem ggL_law_X7_save : GoodIn wsL_law wsX7_save := goodIn_r _ [719, 708, 127, 90, 417, 418, 419, 5, 420, 126, 147, 148, 149, 678, 679, 680, 681, 95, 709, 710, 711, 682, 683, 684, 685, 91, 451, 452, 453, 454, 686, 687, 688, 689, 604, 605, 606, 607, 608, 609, 610, 611, 612, 94, 128, 98, 455, 456, 457, 458, 96, 459, 460, 461, 462, 613, 614, 615, 616, 617, 618, 619, 620, 97, 99, 621, 622, 623, 977, 978, 979, 980, 981, 982, 983, 984, 985, 986, 987, 988, 989, 990, 991, 992, 993, 994, 995, 996, 997, 998, 999, 1000, 1001, 1002, 1003, 1004, 1005, 1006, 1007, 1008, 1009, 1010, 1011, 1012, 1013, 1014, 1015] (by decide +kernel) (by decide +kernel)
set_option maxRecDepth 20000 in
theorem gL_law_X7_save : GoodIn wsL_law (wsV RL 101 RX7 yX7_save wsX7_save) := goodIn_app (goodIn_of _ (by decide +kernel)) ggL_law_X7_save
set_option maxRecDepth 20000 in
theorem ggL_law_X6_run : GoodIn wsL_law wsX6_run := goodIn_r _ [723, 28, 23, 394, 133, 134, 2, 135, 314, 315, 316, 22, 317, 318, 61, 319, 311, 312, 313, 62, 63, 64, 65, 320, 66, 67, 321, 322, 724, 725, 726, 727, 583, 584, 585, 586, 579, 580, 581, 582, 728, 729, 730, 731, 732, 733, 734, 735, 968, 969, 970, 971, 972, 973, 974, 975, 976, 1036, 1037, 1038, 1039, 1040, 1041, 1042, 1043, 1044, 1045, 1046] (by decide +kernel) (by decide +kernel)
set_option maxRecDepth 20000 in
theorem gL_law_X6_run : GoodIn wsL_law (wsV RL 102 RX6 yX6_run wsX6_run) := goodIn_app (goodIn_of _ (by decide +kernel)) ggL_law_X6_run
set_option maxRecDepth 20000 in
theorem ggL_law_X7_run : GoodIn wsL_law wsX7_run := goodIn_r _ [739, 474, 126, 91, 147, 148, 5, 149, 451, 452, 453, 454, 90, 740, 741, 742, 743, 459, 460, 461, 462, 613, 614, 615, 616, 522, 523, 524, 744, 745, 746, 747, 977, 978, 979, 980, 981, 982, 983, 984, 985, 986, 987, 988, 989, 990, 991, 992, 993, 994, 995, 996, 997, 998, 999, 1000, 1001, 1002, 1003, 1004, 1005, 1006, 1007, 1008, 1009, 1010, 1011, 1012, 1013, 1014, 1015] (by decide +kernel) (by decide +kernel)
set_option maxRecDepth 20000 in
theorem gL_law_X7_run : GoodIn wsL_law (wsV RL 105 RX7 yX7_run wsX7_run) := goodIn_app (goodIn_of _ (by decide +kernel)) ggL_law_X7_run
set_option maxRecDepth 20000 in
theorem ggL_law_X6_holds : GoodIn wsL_law wsX6_holds := goodIn_r _ [751, 28, 23, 394, 314, 315, 316, 22, 317, 318, 61, 319, 311, 312, 313, 62, 63, 64, 65, 320, 66, 67, 321, 322, 724, 725, 726, 727, 583, 584, 585, 586, 579, 580, 581, 582, 728, 729, 730, 731, 968, 969, 970, 971, 972, 973, 974, 975, 976, 1036, 1037, 1038, 1039, 1040, 1041, 1042, 1043, 1044, 1045, 1046] (by decide +kernel) (by decide +kernel)
set_option maxRecDepth 20000 in
theorem gL_law_X6_holds : GoodIn wsL_law (wsV RL 106 RX6 yX6_holds wsX6_holds) := goodIn_app (goodIn_of _ (by decide +kernel)) ggL_law_X6_holds
set_option maxRecDepth 20000 in
theorem ggL_law_X7_holds : GoodIn wsL_law wsX7_holds := goodIn_r _ [755, 91, 451, 452, 453, 5, 454, 90, 740, 741, 742, 743, 126, 459, 460, 461, 462, 613, 614, 615, 616, 744, 745, 746, 747, 977, 978, 979, 980, 981, 982, 983, 984, 985, 986, 987, 988, 989, 990, 991, 992, 993, 994, 995, 996, 997, 998, 999, 1000, 1001, 1002, 1003, 1004, 1005, 1006, 1007, 1008, 1009, 1010, 1011, 1012, 1013, 1014, 1015] (by decide +kernel) (by decide +kernel)
set_option maxRecDepth 20000 in
theorem gL_law_X7_holds : GoodIn wsL_law (wsV RL 109 RX7 yX7_holds wsX7_holds) := goodIn_app (goodIn_of _ (by decide +kernel)) ggL_law_X7_holds
set_option maxRecDepth 20000 in
theorem ggL_law_X6_cover : GoodIn wsL_law wsX6_cover := goodIn_r _ [759, 28, 23, 394, 133, 134, 2, 135, 314, 315, 316, 22, 317, 318, 61, 319, 311, 312, 313, 62, 63, 64, 65, 320, 66, 67, 321, 322, 760, 761, 762, 763, 395, 764, 580, 581, 582, 19, 641, 562, 563, 564, 512, 513, 565, 566, 567, 568, 569, 570, 571, 572, 442, 573, 438, 439, 440, 441, 574, 434, 435, 436, 575, 576, 577, 578, 579, 583, 584, 585, 586, 587, 588, 589, 590, 591, 592, 593, 594, 968, 969, 970, 971, 972, 973, 974, 975, 976, 1036, 1037, 1038, 1039, 1040, 1041, 1042, 1043, 1044, 1045, 1046, 1028, 1029, 1030, 1031, 1032, 1033, 1034, 1035] (by decide +kernel) (by decide +kernel)
set_option maxRecDepth 20000 in
theorem gL_law_X6_cover : GoodIn wsL_law (wsV RL 110 RX6 yX6_cover wsX6_cover) := goodIn_app (goodIn_of _ (by decide +kernel)) ggL_law_X6_cover
set_option maxRecDepth 20000 in
theorem ggL_law_X7_cover : GoodIn wsL_law wsX7_cover := goodIn_r _ [768, 769, 770, 771, 5, 772, 599, 91, 147, 148, 149, 451, 452, 453, 454, 90, 600, 601, 602, 603, 604, 605, 606, 607, 608, 609, 610, 611, 612, 127, 95, 94, 128, 98, 126, 455, 456, 457, 458, 96, 459, 460, 461, 462, 613, 614, 615, 616, 617, 618, 619, 620, 97, 99, 621, 622, 623, 624, 625, 626, 627, 977, 978, 979, 980, 981, 982, 983, 984, 985, 986, 987, 988, 989, 990, 991, 992, 993, 994, 995, 996, 997, 998, 999, 1000, 1001, 1002, 1003, 1004, 1005, 1006, 1007, 1008, 1009, 1010, 1011, 1012, 1013, 1014, 1015] (by decide +kernel) (by decide +kernel)
set_option maxRecDepth 20000 in
theorem gL_law_X7_cover : GoodIn wsL_law (wsV RL 113 RX7 yX7_cover wsX7_cover) := goodIn_app (goodIn_of _ (by decide +kernel)) ggL_law_X7_cover
set_option maxRecDepth 20000 in
theorem ggL_law_X6_rate : GoodIn wsL_law wsX6_rate := goodIn_r _ [776, 28, 23, 393, 133, 134, 2, 135, 314, 315, 316, 22, 317, 318, 61, 319, 311, 312, 313, 62, 63, 64, 65, 320, 66, 67, 321, 322, 760, 761, 762, 763, 395, 764, 580, 581, 582, 19, 641, 562, 563, 564, 512, 513, 565, 566, 567, 568, 569, 570, 571, 572, 442, 573, 438, 439, 440, 441, 574, 434, 435, 436, 575, 576, 577, 578, 579, 583, 584, 585, 586, 587, 588, 589, 590, 591, 592, 593, 594, 968, 969, 970, 971, 972, 973, 974, 975, 976, 1036, 1037, 1038, 1039, 1040, 1041, 1042, 1043, 1044, 1045, 1046, 1028, 1029, 1030, 1031, 1032, 1033, 1034, 1035] (by decide +kernel) (by decide +kernel)
set_option maxRecDepth 20000 in
theorem gL_law_X6_rate : GoodIn wsL_law (wsV RL 114 RX6 yX6_rate wsX6_rate) := goodIn_app (goodIn_of _ (by decide +kernel)) ggL_law_X6_rate
set_option maxRecDepth 20000 in
theorem ggL_law_X7_rate : GoodIn wsL_law wsX7_rate := goodIn_r _ [780, 769, 770, 771, 5, 772, 599, 91, 147, 148, 149, 451, 452, 453, 454, 90, 600, 601, 602, 603, 604, 605, 606, 607, 608, 609, 610, 611, 612, 127, 95, 94, 128, 98, 126, 455, 456, 457, 458, 96, 459, 460, 461, 462, 613, 614, 615, 616, 617, 618, 619, 620, 97, 99, 621, 622, 623, 624, 625, 626, 627, 977, 978, 979, 980, 981, 982, 983, 984, 985, 986, 987, 988, 989, 990, 991, 992, 993, 994, 995, 996, 997, 998, 999, 1000, 1001, 1002, 1003, 1004, 1005, 1006, 1007, 1008, 1009, 1010, 1011, 1012, 1013, 1014, 1015] (by decide +kernel) (by decide +kernel)
set_option maxRecDepth 20000 in
theorem gL_law_X7_rate : GoodIn wsL_law (wsV RL 117 RX7 yX7_rate wsX7_rate) := goodIn_app (goodIn_of _ (by decide +kernel)) ggL_law_X7_rate
set_option maxRecDepth 20000 in
theorem ggL_law_X6_gift : GoodIn wsL_law wsX6_gift := goodIn_r _ [784, 23, 396, 390, 28, 19, 133, 134, 2, 135, 666, 667, 668, 669, 314, 315, 316, 22, 317, 318, 61, 319, 311, 312, 313, 62, 63, 64, 65, 320, 66, 67, 321, 322, 670, 671, 672, 673, 561, 562, 563, 564, 512, 513, 565, 566, 567, 568, 569, 570, 571, 572, 442, 573, 438, 439, 440, 441, 574, 434, 435, 436, 575, 576, 577, 578, 579, 580, 581, 582, 583, 584, 585, 586, 587, 588, 589, 590, 591, 592, 593, 594, 785, 968, 969, 970, 971, 972, 973, 974, 975, 976, 1036, 1037, 1038, 1039, 1040, 1041, 1042, 1043, 1044, 1045, 1046, 1028, 1029, 1030, 1031, 1032, 1033, 1034, 1035] (by decide +kernel) (by decide +kernel)
set_option maxRecDepth 20000 in
theorem gL_law_X6_gift : GoodIn wsL_law (wsV RL 118 RX6 yX6_gift wsX6_gift) := goodIn_app (goodIn_of _ (by decide +kernel)) ggL_law_X6_gift
