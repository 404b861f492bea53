set_option maxRecDepth 100000 in
theorem ok65_2 : (cd65_2.all fun q => okI 65 q.1 q.2) = true := by decide +kernel
theorem ok65 : (cd65.all fun q => okI 65 q.1 q.2) = true := by
  rw [cd65, List.all_append, List.all_append, ok65_0, ok65_1, ok65_2]
  try rfl
set_option maxRecDepth 100000 in
theorem ok66_0 : (cd66_0.all fun q => okI 66 q.1 q.2) = true := by decide +kernel
set_option maxRecDepth 100000 in
theorem ok66_1 : (cd66_1.all fun q => okI 66 q.1 q.2) = true := by decide +kernel
set_option maxRecDepth 100000 in
theorem ok66_2 : (cd66_2.all fun q => okI 66 q.1 q.2) = true := by decide +kernel
set_option maxRecDepth 100000 in
theorem ok66_3 : (cd66_3.all fun q => okI 66 q.1 q.2) = true := by decide +kernel
theorem ok66 : (cd66.all fun q => okI 66 q.1 q.2) = true := by
  rw [cd66, List.all_append, List.all_append, List.all_append, ok66_0, ok66_1, ok66_2, ok66_3]
  try rfl
set_option maxRecDepth 100000 in
theorem ok67 : (cd67.all fun q => okI 67 q.1 q.2) = true := by decide +kernel
set_option maxRecDepth 100000 in
theorem ok68 : (cd68.all fun q => okI 68 q.1 q.2) = true := by decide +kernel
set_option maxRecDepth 100000 in
theorem ok69 : (cd69.all fun q => okI 69 q.1 q.2) = true := by decide +kernel
set_option maxRecDepth 100000 in
theorem ok70 : (cd70.all fun q => okI 70 q.1 q.2) = true := by decide +kernel
set_option maxRecDepth 100000 in
theorem ok71 : (cd71.all fun q => okI 71 q.1 q.2) = true := by decide +kernel
set_option maxRecDepth 100000 in
theorem ok72 : (cd72.all fun q => okI 72 q.1 q.2) = true := by decide +kernel
set_option maxRecDepth 100000 in
theorem ok73 : (cd73.all fun q => okI 73 q.1 q.2) = true := by decide +kernel
set_option maxRecDepth 100000 in
theorem ok74 : (cd74.all fun q => okI 74 q.1 q.2) = true := by decide +kernel
set_option maxRecDepth 100000 in
theorem ok75 : (cd75.all fun q => okI 75 q.1 q.2) = true := by decide +kernel
set_option maxRecDepth 100000 in
theorem ok76_0 : (cd76_0.all fun q => okI 76 q.1 q.2) = true := by decide +kernel
set_option maxRecDepth 100000 in
theorem ok76_1 : (cd76_1.all fun q => okI 76 q.1 q.2) = true := by decide +kernel
set_option maxRecDepth 100000 in
theorem ok76_2 : (cd76_2.all fun q => okI 76 q.1 q.2) = true := by decide +kernel
set_option maxRecDepth 100000 in
theorem ok76_3 : (cd76_3.all fun q => okI 76 q.1 q.2) = true := by decide +kernel
set_option maxRecDepth 100000 in
theorem ok76_4 : (cd76_4.all fun q => okI 76 q.1 q.2) = true := by decide +kernel
theorem ok76 : (cd76.all fun q => okI 76 q.1 q.2) = true := by
  rw [cd76, List.all_append, List.all_append, List.all_append, List.all_append, ok76_0, ok76_1, ok76_2, ok76_3, ok76_4]
  try rfl
set_option maxRecDepth 100000 in
theorem ok77_0 : (cd77_0.all fun q => okI 77 q.1 q.2) = true := by decide +kernel
set_option maxRecDepth 100000 in
theorem ok77_1 : (cd77_1.all fun q => okI 77 q.1 q.2) = true := by decide +kernel
set_option maxRecDepth 100000 in
theorem ok77_2 : (cd77_2.all fun q => okI 77 q.1 q.2) = true := by decide +kernel
theorem ok77 : (cd77.all fun q => okI 77 q.1 q.2) = true := by
  rw [cd77, List.all_append, List.all_append, ok77_0, ok77_1, ok77_2]
  try rfl
set_option maxRecDepth 100000 in
theorem ok78 : (cd78.all fun q => okI 78 q.1 q.2) = true := by decide +kernel
set_option maxRecDepth 100000 in
theorem ok79 : (cd79.all fun q => okI 79 q.1 q.2) = true := by decide +kernel
set_option maxRecDepth 100000 in
theorem ok80 : (cd80.all fun q => okI 80 q.1 q.2) = true := by decide +kernel
set_option maxRecDepth 100000 in
theorem ok81 : (cd81.all fun q => okI 81 q.1 q.2) = true := by decide +kernel
set_option maxRecDepth 100000 in
theorem ok82 : (cd82.all fun q => okI 82 q.1 q.2) = true := by decide +kernel
set_option maxRecDepth 100000 in
theorem ok83 : (cd83.all fun q => okI 83 q.1 q.2) = true := by decide +kernel
set_option maxRecDepth 100000 in
theorem ok84 : (cd84.all fun q => okI 84 q.1 q.2) = true := by decide +kernel
set_option maxRecDepth 100000 in
theorem ok85 : (cd85.all fun q => okI 85 q.1 q.2) = true := by decide +kernel
set_option maxRecDepth 100000 in
theorem ok86 : (cd86.all fun q => okI 86 q.1 q.2) = true := by decide +kernel
set_option maxRecDepth 100000 in
theorem ok87 : (cd87.all fun q => okI 87 q.1 q.2) = true := by decide +kernel
set_option maxRecDepth 100000 in
theorem ok88 : (cd88.all fun q => okI 88 q.1 q.2) = true := by decide +kernel
set_option maxRecDepth 100000 in
theorem ok89 : (cd89.all fun q => okI 89 q.1 q.2) = true := by decide +kernel
set_option maxRecDepth 100000 in
theorem ok90 : (cd90.all fun q => okI 90 q.1 q.2) = true := by decide +kernel
set_option maxRecDepth 100000 in
theorem ok91 : (cd91.all fun q => okI 91 q.1 q.2) = true := by decide +kernel
set_option maxRecDepth 100000 in
theorem ok92 : (cd92.all fun q => okI 92 q.1 q.2) = true := by decide +kernel
set_option maxRecDepth 100000 in
theorem ok93 : (cd93.all fun q => okI 93 q.1 q.2) = true := by decide +kernel
set_option maxRecDepth 100000 in
theorem ok94 : (cd94.all fun q => okI 94 q.1 q.2) = true := by decide +kernel
set_option maxRecDepth 100000 in
theorem ok95 : (cd95.all fun q => okI 95 q.1 q.2) = true := by decide +kernel
set_option maxRecDepth 100000 in
theorem ok96 : (cd96.all fun q => okI 96 q.1 q.2) = true := by decide +kernel
set_option maxRecDepth 100000 in
theorem ok97 : (cd97.all fun q => okI 97 q.1 q.2) = true := by decide +kernel
set_option maxRecDepth 100000 in
theorem ok98 : (cd98.all fun q => okI 98 q.1 q.2) = true := by decide +kernel
set_option maxRecDepth 100000 in
theorem ok99 : (cd99.all fun q => okI 99 q.1 q.2) = true := by decide +kernel
set_option maxRecDepth 100000 in
theorem ok100 : (cd100.all fun q => okI 100 q.1 q.2) = true := by decide +kernel
set_option maxRecDepth 100000 in
theorem ok101 : (cd101.all fun q => okI 101 q.1 q.2) = true := by decide +kernel
set_option maxRecDepth 100000 in
theorem ok102 : (cd102.all fun q => okI 102 q.1 q.2) = true := by decide +kernel
set_option maxRecDepth 100000 in
theorem ok103 : (cd103.all fun q => okI 103 q.1 q.2) = true := by decide +kernel
set_option maxRecDepth 100000 in
theorem ok104 : (cd104.all fun q => okI 104 q.1 q.2) = true := by decide +kernel
set_option maxRecDepth 100000 in
theorem ok105 : (cd105.all fun q => okI 105 q.1 q.2) = true := by decide +kernel
set_option maxRecDepth 100000 in
theorem ok106 : (cd106.all fun q => okI 106 q.1 q.2) = true := by decide +kernel
set_option maxRecDepth 100000 in
theorem ok107 : (cd107.all fun q => okI 107 q.1 q.2) = true := by decide +kernel
set_option maxRecDepth 100000 in
theorem ok108 : (cd108.all fun q => okI 108 q.1 q.2) = true := by decide +kernel
set_option maxRecDepth 100000 in
theorem ok109 : (cd109.all fun q => okI 109 q.1 q.2) = true := by decide +kernel
set_option maxRecDepth 100000 in
theorem ok110 : (cd110.all fun q => okI 110 q.1 q.2) = true := by decide +kernel
set_option maxRecDepth 100000 in
theorem ok111 : (cd111.all fun q => okI 111 q.1 q.2) = true := by decide +kernel
set_option maxRecDepth 100000 in
theorem ok112 : (cd112.all fun q => okI 112 q.1 q.2) = true := by decide +kernel
set_option maxRecDepth 100000 in
theorem ok113 : (cd113.all fun q => okI 113 q.1 q.2) = true := by decide +kernel
set_option maxRecDepth 100000 in
theorem ok114 : (cd114.all fun q => okI 114 q.1 q.2) = true := by decide +kernel
set_option maxRecDepth 100000 in
theorem ok115 : (cd115.all fun q => okI 115 q.1 q.2) = true := by decide +kernel
set_option maxRecDepth 100000 in
theorem ok116 : (cd116.all fun q => okI 116 q.1 q.2) = true := by decide +kernel
set_option maxRecDepth 100000 in
theorem ok117 : (cd117.all fun q => okI 117 q.1 q.2) = true := by decide +kernel
set_option maxRecDepth 100000 in
theorem ok118 : (cd118.all fun q => okI 118 q.1 q.2) = true := by decide +kernel
set_option maxRecDepth 100000 in
theorem ok119 : (cd119.all fun q => okI 119 q.1 q.2) = true := by decide +kernel
set_option maxRecDepth 100000 in
theorem ok120 : (cd120.all fun q => okI 120 q.1 q.2) = true := by decide +kernel
set_option maxRecDepth 100000 in
theorem ok121 : (cd121.all fun q => okI 121 q.1 q.2) = true := by decide +kernel
set_option maxRecDepth 100000 in
theorem ok122 : (cd122.all fun q => okI 122 q.1 q.2) = true := by decide +kernel
set_option maxRecDepth 100000 in
theorem ok123 : (cd123.all fun q => okI 123 q.1 q.2) = true := by decide +kernel
set_option maxRecDepth 100000 in
theorem ok124 : (cd124.all fun q => okI 124 q.1 q.2) = true := by decide +kernel
set_option maxRecDepth 100000 in
theorem ok125 : (cd125.all fun q => okI 125 q.1 q.2) = true := by decide +kernel
set_option maxRecDepth 100000 in
theorem ok126 : (cd126.all fun q => okI 126 q.1 q.2) = true := by decide +kernel
set_option maxRecDepth 100000 in
theorem ok127_0 : (cd127_0.all fun q => okI 127 q.1 q.2) = true := by decide +kernel
set_option maxRecDepth 100000 in
theorem ok127_1 : (cd127_1.all fun q => okI 127 q.1 q.2) = true := by decide +kernel
set_option maxRecDepth 100000 in
theorem ok127_2 : (cd127_2.all fun q => okI 127 q.1 q.2) = true := by decide +kernel
set_option maxRecDepth 100000 in
theorem ok127_3 : (cd127_3.all fun q => okI 127 q.1 q.2) = true := by decide +kernel
theorem ok127 : (cd127.all fun q => okI 127 q.1 q.2) = true := by
  rw [cd127, List.all_append, List.all_append, List.all_append, ok127_0, ok127_1, ok127_2, ok127_3]
  try rfl
set_option maxRecDepth 100000 in
theorem ok128 : (cd128.all fun q => okI 128 q.1 q.2) = true := by decide +kernel
set_option maxRecDepth 100000 in
theorem ok129 : (cd129.all fun q => okI 129 q.1 q.2) = true := by decide +kernel
set_option maxRecDepth 100000 in
theorem ok130 : (cd130.all fun q => okI 130 q.1 q.2) = true := by decide +kernel
set_option maxRecDepth 100000 in
theorem ok131 : (cd131.all fun q => okI 131 q.1 q.2) = true := by decide +kernel
set_option maxRecDepth 100000 in
theorem ok132 : (cd132.all fun q => okI 132 q.1 q.2) = true := by decide +kernel
set_option maxRecDepth 100000 in
theorem ok133 : (cd133.all fun q => okI 133 q.1 q.2) = true := by decide +kernel
set_option maxRecDepth 100000 in
theorem ok134 : (cd134.all fun q => okI 134 q.1 q.2) = true := by decide +kernel
set_option maxRecDepth 100000 in
theorem ok135 : (cd135.all fun q => okI 135 q.1 q.2) = true := by decide +kernel
set_option maxRecDepth 100000 in
theorem ok136 : (cd136.all fun q => okI 136 q.1 q.2) = true := by decide +kernel
set_option maxRecDepth 100000 in
theorem ok137 : (cd137.all fun q => okI 137 q.1 q.2) = true := by decide +kernel
set_option maxRecDepth 100000 in
theorem ok138 : (cd138.all fun q => okI 138 q.1 q.2) = true := by decide +kernel
set_option maxRecDepth 100000 in
theorem ok139 : (cd139.all fun q => okI 139 q.1 q.2) = true := by decide +kernel
set_option maxRecDepth 100000 in
theorem ok140 : (cd140.all fun q => okI 140 q.1 q.2) = true := by decide +kernel
set_option maxRecDepth 100000 in
theorem ok141 : (cd141.all fun q => okI 141 q.1 q.2) = true := by decide +kernel
set_option maxRecDepth 100000 in
theorem ok142 : (cd142.all fun q => okI 142 q.1 q.2) = true := by decide +kernel
def okAll (l : List (List (Nat × LI))) (k : Nat) : Prop := ∀ (j : Nat) (c : List (Nat × LI)), l[j]? = some c → (c.all fun q => okI (k + j) q.1 q.2) = true
theorem okAll_nil (k : Nat) : okAll [] k := fun j c h => by simp at h
theorem okAll_cons {c : List (Nat × LI)} {l : List (List (Nat × LI))} {k : Nat} (h : (c.all fun q => okI k q.1 q.2) = true) (t : okAll l (k + 1)) : okAll (c :: l) k := by
  intro j d hj
  cases j with
  | zero => rw [List.getElem?_cons_zero] at hj; cases hj; exact h
  | succ j =>
    rw [List.getElem?_cons_succ] at hj
    have := t j d hj
    rw [show k + (j + 1) = k + 1 + j by omega]
    exact this
set_option maxRecDepth 100000 in
theorem okAll_cds : okAll cds 0 := okAll_cons ok0 (okAll_cons ok1 (okAll_cons ok2 (okAll_cons ok3 (okAll_cons ok4 (okAll_cons ok5 (okAll_cons ok6 (okAll_cons ok7 (okAll_cons ok8 (okAll_cons ok9 (okAll_cons ok10 (okAll_cons ok11 (okAll_cons ok12 (okAll_cons ok13 (okAll_cons ok14 (okAll_cons ok15 (okAll_cons ok16 (okAll_cons ok17 (okAll_cons ok18 (okAll_cons ok19 (okAll_cons ok20 (okAll_cons ok21 (okAll_cons ok22 (okAll_cons ok23 (okAll_cons ok24 (okAll_cons ok25 (okAll_cons ok26 (okAll_cons ok27 (okAll_cons ok28 (okAll_cons ok29 (okAll_cons ok30 (okAll_cons ok31 (okAll_cons ok32 (okAll_cons ok33 (okAll_cons ok34 (okAll_cons ok35 (okAll_cons ok36 (okAll_cons ok37 (okAll_cons ok38 (okAll_cons ok39 (okAll_cons ok40 (okAll_cons ok41 (okAll_cons ok42 (okAll_cons ok43 (okAll_cons ok44 (okAll_cons ok45 (okAll_cons ok46 (okAll_cons ok47 (okAll_cons ok48 (okAll_cons ok49 (okAll_cons ok50 (okAll_cons ok51 (okAll_cons ok52 (okAll_cons ok53 (okAll_cons ok54 (okAll_cons ok55 (okAll_cons ok56 (okAll_cons ok57 (okAll_cons ok58 (okAll_cons ok59 (okAll_cons ok60 (okAll_cons ok61 (okAll_cons ok62 (okAll_cons ok63 (okAll_cons ok64 (okAll_cons ok65 (okAll_cons ok66 (okAll_cons ok67 (okAll_cons ok68 (okAll_cons ok69 (okAll_cons ok70 (okAll_cons ok71 (okAll_cons ok72 (okAll_cons ok73 (okAll_cons ok74 (okAll_cons ok75 (okAll_cons ok76 (okAll_cons ok77 (okAll_cons ok78 (okAll_cons ok79 (okAll_cons ok80 (okAll_cons ok81 (okAll_cons ok82 (okAll_cons ok83 (okAll_cons ok84 (okAll_cons ok85 (okAll_cons ok86 (okAll_cons ok87 (okAll_cons ok88 (okAll_cons ok89 (okAll_cons ok90 (okAll_cons ok91 (okAll_cons ok92 (okAll_cons ok93 (okAll_cons ok94 (okAll_cons ok95 (okAll_cons ok96 (okAll_cons ok97 (okAll_cons ok98 (okAll_cons ok99 (okAll_cons ok100 (okAll_cons ok101 (okAll_cons ok102 (okAll_cons ok103 (okAll_cons ok104 (okAll_cons ok105 (okAll_cons ok106 (okAll_cons ok107 (okAll_cons ok108 (okAll_cons ok109 (okAll_cons ok110 (okAll_cons ok111 (okAll_cons ok112 (okAll_cons ok113 (okAll_cons ok114 (okAll_cons ok115 (okAll_cons ok116 (okAll_cons ok117 (okAll_cons ok118 (okAll_cons ok119 (okAll_cons ok120 (okAll_cons ok121 (okAll_cons ok122 (okAll_cons ok123 (okAll_cons ok124 (okAll_cons ok125 (okAll_cons ok126 (okAll_cons ok127 (okAll_cons ok128 (okAll_cons ok129 (okAll_cons ok130 (okAll_cons ok131 (okAll_cons ok132 (okAll_cons ok133 (okAll_cons ok134 (okAll_cons ok135 (okAll_cons ok136 (okAll_cons ok137 (okAll_cons ok138 (okAll_cons ok139 (okAll_cons ok140 (okAll_cons ok141 (okAll_cons ok142 (okAll_nil 143)))))))))))))))))))))))))))))))))))))))))))))))))))))))))))))))))))))))))))))))))))))))))))))))))))))))))))))))))))))))))))))))))))))))))))))))
def cpos : List Nat := [70, 87, 361, 367, 371, 418, 437, 442, 473, 478, 526, 530, 534, 580, 588, 592, 596, 600, 608, 612, 639, 654, 666, 670, 680, 689, 697, 321, 402, 465, 469, 462, 642, 702, 806, 934, 707, 802, 811, 827, 831, 823, 819, 815, 845, 841, 853, 862, 871, 875, 879, 867, 882, 849, 858, 906, 902, 910, 898, 890, 887, 894, 914, 918, 927, 931, 922, 945, 941, 938, 949, 953, 957, 965, 961, 969, 973, 979, 991, 987, 995, 1000, 1004, 1008, 1012, 224, 433, 538, 542, 557, 562, 566, 576, 546, 551, 290, 617, 625, 635, 257, 429, 658, 662, 674, 684, 693, 95, 311, 422, 329, 446, 318, 325, 399, 406, 410, 414, 459, 455, 450, 604, 499, 164, 375, 388, 384, 380, 393, 186, 486, 482, 584, 495, 192, 490, 570, 506, 518, 522, 514, 650, 314, 620]
