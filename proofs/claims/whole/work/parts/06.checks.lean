/-! each instruction is as the tables and the bytes say. Written by program (wip/gen/g06.py). -/
set_option maxRecDepth 100000 in
theorem ok0_0 : (cd0_0.all fun q => okI 0 q.1 q.2) = true := by decide +kernel
set_option maxRecDepth 100000 in
theorem ok0_1 : (cd0_1.all fun q => okI 0 q.1 q.2) = true := by decide +kernel
set_option maxRecDepth 100000 in
theorem ok0_2 : (cd0_2.all fun q => okI 0 q.1 q.2) = true := by decide +kernel
set_option maxRecDepth 100000 in
theorem ok0_3 : (cd0_3.all fun q => okI 0 q.1 q.2) = true := by decide +kernel
set_option maxRecDepth 100000 in
theorem ok0_4 : (cd0_4.all fun q => okI 0 q.1 q.2) = true := by decide +kernel
set_option maxRecDepth 100000 in
theorem ok0_5 : (cd0_5.all fun q => okI 0 q.1 q.2) = true := by decide +kernel
set_option maxRecDepth 100000 in
theorem ok0_6 : (cd0_6.all fun q => okI 0 q.1 q.2) = true := by decide +kernel
set_option maxRecDepth 100000 in
theorem ok0_7 : (cd0_7.all fun q => okI 0 q.1 q.2) = true := by decide +kernel
set_option maxRecDepth 100000 in
theorem ok0_8 : (cd0_8.all fun q => okI 0 q.1 q.2) = true := by decide +kernel
set_option maxRecDepth 100000 in
theorem ok0_9 : (cd0_9.all fun q => okI 0 q.1 q.2) = true := by decide +kernel
set_option maxRecDepth 100000 in
theorem ok0_10 : (cd0_10.all fun q => okI 0 q.1 q.2) = true := by decide +kernel
set_option maxRecDepth 100000 in
theorem ok0_11 : (cd0_11.all fun q => okI 0 q.1 q.2) = true := by decide +kernel
set_option maxRecDepth 100000 in
theorem ok0_12 : (cd0_12.all fun q => okI 0 q.1 q.2) = true := by decide +kernel
set_option maxRecDepth 100000 in
theorem ok0_13 : (cd0_13.all fun q => okI 0 q.1 q.2) = true := by decide +kernel
set_option maxRecDepth 100000 in
theorem ok0_14 : (cd0_14.all fun q => okI 0 q.1 q.2) = true := by decide +kernel
theorem ok0 : (cd0.all fun q => okI 0 q.1 q.2) = true := by
  rw [cd0, List.all_append, List.all_append, List.all_append, List.all_append, List.all_append, List.all_append, List.all_append, List.all_append, List.all_append, List.all_append, List.all_append, List.all_append, List.all_append, List.all_append, ok0_0, ok0_1, ok0_2, ok0_3, ok0_4, ok0_5, ok0_6, ok0_7, ok0_8, ok0_9, ok0_10, ok0_11, ok0_12, ok0_13, ok0_14]
  try rfl
set_option maxRecDepth 100000 in
theorem ok1 : (cd1.all fun q => okI 1 q.1 q.2) = true := by decide +kernel
set_option maxRecDepth 100000 in
theorem ok2 : (cd2.all fun q => okI 2 q.1 q.2) = true := by decide +kernel
set_option maxRecDepth 100000 in
theorem ok3 : (cd3.all fun q => okI 3 q.1 q.2) = true := by decide +kernel
set_option maxRecDepth 100000 in
theorem ok4 : (cd4.all fun q => okI 4 q.1 q.2) = true := by decide +kernel
set_option maxRecDepth 100000 in
theorem ok5 : (cd5.all fun q => okI 5 q.1 q.2) = true := by decide +kernel
set_option maxRecDepth 100000 in
theorem ok6 : (cd6.all fun q => okI 6 q.1 q.2) = true := by decide +kernel
set_option maxRecDepth 100000 in
theorem ok7 : (cd7.all fun q => okI 7 q.1 q.2) = true := by decide +kernel
set_option maxRecDepth 100000 in
theorem ok8 : (cd8.all fun q => okI 8 q.1 q.2) = true := by decide +kernel
set_option maxRecDepth 100000 in
theorem ok9 : (cd9.all fun q => okI 9 q.1 q.2) = true := by decide +kernel
set_option maxRecDepth 100000 in
theorem ok10 : (cd10.all fun q => okI 10 q.1 q.2) = true := by decide +kernel
set_option maxRecDepth 100000 in
theorem ok11 : (cd11.all fun q => okI 11 q.1 q.2) = true := by decide +kernel
set_option maxRecDepth 100000 in
theorem ok12 : (cd12.all fun q => okI 12 q.1 q.2) = true := by decide +kernel
set_option maxRecDepth 100000 in
theorem ok13 : (cd13.all fun q => okI 13 q.1 q.2) = true := by decide +kernel
set_option maxRecDepth 100000 in
theorem ok14 : (cd14.all fun q => okI 14 q.1 q.2) = true := by decide +kernel
set_option maxRecDepth 100000 in
theorem ok15 : (cd15.all fun q => okI 15 q.1 q.2) = true := by decide +kernel
set_option maxRecDepth 100000 in
theorem ok16 : (cd16.all fun q => okI 16 q.1 q.2) = true := by decide +kernel
set_option maxRecDepth 100000 in
theorem ok17 : (cd17.all fun q => okI 17 q.1 q.2) = true := by decide +kernel
set_option maxRecDepth 100000 in
theorem ok18 : (cd18.all fun q => okI 18 q.1 q.2) = true := by decide +kernel
set_option maxRecDepth 100000 in
theorem ok19 : (cd19.all fun q => okI 19 q.1 q.2) = true := by decide +kernel
set_option maxRecDepth 100000 in
theorem ok20 : (cd20.all fun q => okI 20 q.1 q.2) = true := by decide +kernel
set_option maxRecDepth 100000 in
theorem ok21 : (cd21.all fun q => okI 21 q.1 q.2) = true := by decide +kernel
set_option maxRecDepth 100000 in
theorem ok22 : (cd22.all fun q => okI 22 q.1 q.2) = true := by decide +kernel
set_option maxRecDepth 100000 in
theorem ok23 : (cd23.all fun q => okI 23 q.1 q.2) = true := by decide +kernel
set_option maxRecDepth 100000 in
theorem ok24 : (cd24.all fun q => okI 24 q.1 q.2) = true := by decide +kernel
set_option maxRecDepth 100000 in
theorem ok25 : (cd25.all fun q => okI 25 q.1 q.2) = true := by decide +kernel
set_option maxRecDepth 100000 in
theorem ok26 : (cd26.all fun q => okI 26 q.1 q.2) = true := by decide +kernel
set_option maxRecDepth 100000 in
theorem ok27 : (cd27.all fun q => okI 27 q.1 q.2) = true := by decide +kernel
set_option maxRecDepth 100000 in
theorem ok28 : (cd28.all fun q => okI 28 q.1 q.2) = true := by decide +kernel
set_option maxRecDepth 100000 in
theorem ok29 : (cd29.all fun q => okI 29 q.1 q.2) = true := by decide +kernel
set_option maxRecDepth 100000 in
theorem ok30 : (cd30.all fun q => okI 30 q.1 q.2) = true := by decide +kernel
set_option maxRecDepth 100000 in
theorem ok31 : (cd31.all fun q => okI 31 q.1 q.2) = true := by decide +kernel
set_option maxRecDepth 100000 in
theorem ok32 : (cd32.all fun q => okI 32 q.1 q.2) = true := by decide +kernel
set_option maxRecDepth 100000 in
theorem ok33_0 : (cd33_0.all fun q => okI 33 q.1 q.2) = true := by decide +kernel
set_option maxRecDepth 100000 in
theorem ok33_1 : (cd33_1.all fun q => okI 33 q.1 q.2) = true := by decide +kernel
set_option maxRecDepth 100000 in
theorem ok33_2 : (cd33_2.all fun q => okI 33 q.1 q.2) = true := by decide +kernel
set_option maxRecDepth 100000 in
theorem ok33_3 : (cd33_3.all fun q => okI 33 q.1 q.2) = true := by decide +kernel
theorem ok33 : (cd33.all fun q => okI 33 q.1 q.2) = true := by
  rw [cd33, List.all_append, List.all_append, List.all_append, ok33_0, ok33_1, ok33_2, ok33_3]
  try rfl
set_option maxRecDepth 100000 in
theorem ok34 : (cd34.all fun q => okI 34 q.1 q.2) = true := by decide +kernel
set_option maxRecDepth 100000 in
theorem ok35 : (cd35.all fun q => okI 35 q.1 q.2) = true := by decide +kernel
set_option maxRecDepth 100000 in
theorem ok36 : (cd36.all fun q => okI 36 q.1 q.2) = true := by decide +kernel
set_option maxRecDepth 100000 in
theorem ok37 : (cd37.all fun q => okI 37 q.1 q.2) = true := by decide +kernel
set_option maxRecDepth 100000 in
theorem ok38 : (cd38.all fun q => okI 38 q.1 q.2) = true := by decide +kernel
set_option maxRecDepth 100000 in
theorem ok39 : (cd39.all fun q => okI 39 q.1 q.2) = true := by decide +kernel
set_option maxRecDepth 100000 in
theorem ok40 : (cd40.all fun q => okI 40 q.1 q.2) = true := by decide +kernel
set_option maxRecDepth 100000 in
theorem ok41_0 : (cd41_0.all fun q => okI 41 q.1 q.2) = true := by decide +kernel
set_option maxRecDepth 100000 in
theorem ok41_1 : (cd41_1.all fun q => okI 41 q.1 q.2) = true := by decide +kernel
set_option maxRecDepth 100000 in
theorem ok41_2 : (cd41_2.all fun q => okI 41 q.1 q.2) = true := by decide +kernel
set_option maxRecDepth 100000 in
theorem ok41_3 : (cd41_3.all fun q => okI 41 q.1 q.2) = true := by decide +kernel
set_option maxRecDepth 100000 in
theorem ok41_4 : (cd41_4.all fun q => okI 41 q.1 q.2) = true := by decide +kernel
set_option maxRecDepth 100000 in
theorem ok41_5 : (cd41_5.all fun q => okI 41 q.1 q.2) = true := by decide +kernel
set_option maxRecDepth 100000 in
theorem ok41_6 : (cd41_6.all fun q => okI 41 q.1 q.2) = true := by decide +kernel
set_option maxRecDepth 100000 in
theorem ok41_7 : (cd41_7.all fun q => okI 41 q.1 q.2) = true := by decide +kernel
set_option maxRecDepth 100000 in
theorem ok41_8 : (cd41_8.all fun q => okI 41 q.1 q.2) = true := by decide +kernel
theorem ok41 : (cd41.all fun q => okI 41 q.1 q.2) = true := by
  rw [cd41, List.all_append, List.all_append, List.all_append, List.all_append, List.all_append, List.all_append, List.all_append, List.all_append, ok41_0, ok41_1, ok41_2, ok41_3, ok41_4, ok41_5, ok41_6, ok41_7, ok41_8]
  try rfl
set_option maxRecDepth 100000 in
theorem ok42 : (cd42.all fun q => okI 42 q.1 q.2) = true := by decide +kernel
set_option maxRecDepth 100000 in
theorem ok43 : (cd43.all fun q => okI 43 q.1 q.2) = true := by decide +kernel
set_option maxRecDepth 100000 in
theorem ok44 : (cd44.all fun q => okI 44 q.1 q.2) = true := by decide +kernel
set_option maxRecDepth 100000 in
theorem ok45_0 : (cd45_0.all fun q => okI 45 q.1 q.2) = true := by decide +kernel
set_option maxRecDepth 100000 in
theorem ok45_1 : (cd45_1.all fun q => okI 45 q.1 q.2) = true := by decide +kernel
set_option maxRecDepth 100000 in
theorem ok45_2 : (cd45_2.all fun q => okI 45 q.1 q.2) = true := by decide +kernel
set_option maxRecDepth 100000 in
theorem ok45_3 : (cd45_3.all fun q => okI 45 q.1 q.2) = true := by decide +kernel
theorem ok45 : (cd45.all fun q => okI 45 q.1 q.2) = true := by
  rw [cd45, List.all_append, List.all_append, List.all_append, ok45_0, ok45_1, ok45_2, ok45_3]
  try rfl
set_option maxRecDepth 100000 in
theorem ok46 : (cd46.all fun q => okI 46 q.1 q.2) = true := by decide +kernel
set_option maxRecDepth 100000 in
theorem ok47 : (cd47.all fun q => okI 47 q.1 q.2) = true := by decide +kernel
set_option maxRecDepth 100000 in
theorem ok48 : (cd48.all fun q => okI 48 q.1 q.2) = true := by decide +kernel
set_option maxRecDepth 100000 in
theorem ok49 : (cd49.all fun q => okI 49 q.1 q.2) = true := by decide +kernel
set_option maxRecDepth 100000 in
theorem ok50 : (cd50.all fun q => okI 50 q.1 q.2) = true := by decide +kernel
set_option maxRecDepth 100000 in
theorem ok51 : (cd51.all fun q => okI 51 q.1 q.2) = true := by decide +kernel
set_option maxRecDepth 100000 in
theorem ok52 : (cd52.all fun q => okI 52 q.1 q.2) = true := by decide +kernel
set_option maxRecDepth 100000 in
theorem ok53 : (cd53.all fun q => okI 53 q.1 q.2) = true := by decide +kernel
set_option maxRecDepth 100000 in
theorem ok54 : (cd54.all fun q => okI 54 q.1 q.2) = true := by decide +kernel
set_option maxRecDepth 100000 in
theorem ok55 : (cd55.all fun q => okI 55 q.1 q.2) = true := by decide +kernel
set_option maxRecDepth 100000 in
theorem ok56 : (cd56.all fun q => okI 56 q.1 q.2) = true := by decide +kernel
set_option maxRecDepth 100000 in
theorem ok57 : (cd57.all fun q => okI 57 q.1 q.2) = true := by decide +kernel
set_option maxRecDepth 100000 in
theorem ok58 : (cd58.all fun q => okI 58 q.1 q.2) = true := by decide +kernel
set_option maxRecDepth 100000 in
theorem ok59 : (cd59.all fun q => okI 59 q.1 q.2) = true := by decide +kernel
set_option maxRecDepth 100000 in
theorem ok60 : (cd60.all fun q => okI 60 q.1 q.2) = true := by decide +kernel
set_option maxRecDepth 100000 in
theorem ok61 : (cd61.all fun q => okI 61 q.1 q.2) = true := by decide +kernel
set_option maxRecDepth 100000 in
theorem ok62 : (cd62.all fun q => okI 62 q.1 q.2) = true := by decide +kernel
set_option maxRecDepth 100000 in
theorem ok63 : (cd63.all fun q => okI 63 q.1 q.2) = true := by decide +kernel
set_option maxRecDepth 100000 in
theorem ok64 : (cd64.all fun q => okI 64 q.1 q.2) = true := by decide +kernel
set_option maxRecDepth 100000 in
theorem ok65_0 : (cd65_0.all fun q => okI 65 q.1 q.2) = true := by decide +kernel
set_option maxRecDepth 100000 in
theorem ok65_1 : (cd65_1.all fun q => okI 65 q.1 q.2) = true := by decide +kernel
set_option maxRecDepth 100000 in
theorem ok65_2 : (cd65_2.all fun q => okI 65 q.1 q.2) = true := by decide +kernel
theorem ok65 : (cd65.all fun q => okI 65 q.1 q.2) = true := by
  rw [cd65, List.all_append, List.all_append, ok65_0, ok65_1, ok65_2]
  try rfl
set_option maxRecDepth 100000 in
theorem ok66_0 : (cd66_0.all fun q => okI 66 q.1 q.2) = true := by decide +kernel
set_option maxRecDepth 100000 in
theorem ok66_1 : (cd66_1.all fun q => okI 66 q.1 q.2) = true := by decide +kernel
set_option maxRecDepth 100000 in
theorem ok66_2 : (cd66_2.all fun q => okI 66 q.1 q.2) = true := by decide +kernel
set_option maxRecDepth 100000 in
theorem ok66_3 : (cd66_3.all fun q => okI 66 q.1 q.2) = true := by decide +kernel
theorem ok66 : (cd66.all fun q => okI 66 q.1 q.2) = true := by
  rw [cd66, List.all_append, List.all_append, List.all_append, ok66_0, ok66_1, ok66_2, ok66_3]
  try rfl
set_option maxRecDepth 100000 in
theorem ok67 : (cd67.all fun q => okI 67 q.1 q.2) = true := by decide +kernel
set_option maxRecDepth 100000 in
theorem ok68 : (cd68.all fun q => okI 68 q.1 q.2) = true := by decide +kernel
set_option maxRecDepth 100000 in
theorem ok69 : (cd69.all fun q => okI 69 q.1 q.2) = true := by decide +kernel
set_option maxRecDepth 100000 in
theorem ok70 : (cd70.all fun q => okI 70 q.1 q.2) = true := by decide +kernel
set_option maxRecDepth 100000 in
theorem ok71 : (cd71.all fun q => okI 71 q.1 q.2) = true := by decide +kernel
set_option maxRecDepth 100000 in
theorem ok72 : (cd72.all fun q => okI 72 q.1 q.2) = true := by decide +kernel
set_option maxRecDepth 100000 in
theorem ok73 : (cd73.all fun q => okI 73 q.1 q.2) = true := by decide +kernel
set_option maxRecDepth 100000 in
theorem ok74 : (cd74.all fun q => okI 74 q.1 q.2) = true := by decide +kernel
set_option maxRecDepth 100000 in
theorem ok75 : (cd75.all fun q => okI 75 q.1 q.2) = true := by decide +kernel
set_option maxRecDepth 100000 in
theorem ok76_0 : (cd76_0.all fun q => okI 76 q.1 q.2) = true := by decide +kernel
set_option maxRecDepth 100000 in
theorem ok76_1 : (cd76_1.all fun q => okI 76 q.1 q.2) = true := by decide +kernel
set_option maxRecDepth 100000 in
theorem ok76_2 : (cd76_2.all fun q => okI 76 q.1 q.2) = true := by decide +kernel
set_option maxRecDepth 100000 in
theorem ok76_3 : (cd76_3.all fun q => okI 76 q.1 q.2) = true := by decide +kernel
set_option maxRecDepth 100000 in
theorem ok76_4 : (cd76_4.all fun q => okI 76 q.1 q.2) = true := by decide +kernel
theorem ok76 : (cd76.all fun q => okI 76 q.1 q.2) = true := by
  rw [cd76, List.all_append, List.all_append, List.all_append, List.all_append, ok76_0, ok76_1, ok76_2, ok76_3, ok76_4]
  try rfl
set_option maxRecDepth 100000 in
theorem ok77_0 : (cd77_0.all fun q => okI 77 q.1 q.2) = true := by decide +kernel
set_option maxRecDepth 100000 in
theorem ok77_1 : (cd77_1.all fun q => okI 77 q.1 q.2) = true := by decide +kernel
set_option maxRecDepth 100000 in
theorem ok77_2 : (cd77_2.all fun q => okI 77 q.1 q.2) = true := by decide +kernel
theorem ok77 : (cd77.all fun q => okI 77 q.1 q.2) = true := by
  rw [cd77, List.all_append, List.all_append, ok77_0, ok77_1, ok77_2]
  try rfl
set_option maxRecDepth 100000 in
theorem ok78 : (cd78.all fun q => okI 78 q.1 q.2) = true := by decide +kernel
set_option maxRecDepth 100000 in
theorem ok79 : (cd79.all fun q => okI 79 q.1 q.2) = true := by decide +kernel
set_option maxRecDepth 100000 in
theorem ok80 : (cd80.all fun q => okI 80 q.1 q.2) = true := by decide +kernel
set_option maxRecDepth 100000 in
theorem ok81 : (cd81.all fun q => okI 81 q.1 q.2) = true := by decide +kernel
set_option maxRecDepth 100000 in
theorem ok82 : (cd82.all fun q => okI 82 q.1 q.2) = true := by decide +kernel
set_option maxRecDepth 100000 in
theorem ok83 : (cd83.all fun q => okI 83 q.1 q.2) = true := by decide +kernel
set_option maxRecDepth 100000 in
theorem ok84 : (cd84.all fun q => okI 84 q.1 q.2) = true := by decide +kernel
set_option maxRecDepth 100000 in
theorem ok85 : (cd85.all fun q => okI 85 q.1 q.2) = true := by decide +kernel
set_option maxRecDepth 100000 in
theorem ok86 : (cd86.all fun q => okI 86 q.1 q.2) = true := by decide +kernel
set_option maxRecDepth 100000 in
theorem ok87 : (cd87.all fun q => okI 87 q.1 q.2) = true := by decide +kernel
set_option maxRecDepth 100000 in
theorem ok88 : (cd88.all fun q => okI 88 q.1 q.2) = true := by decide +kernel
set_option maxRecDepth 100000 in
theorem ok89 : (cd89.all fun q => okI 89 q.1 q.2) = true := by decide +kernel
set_option maxRecDepth 100000 in
theorem ok90 : (cd90.all fun q => okI 90 q.1 q.2) = true := by decide +kernel
set_option maxRecDepth 100000 in
theorem ok91 : (cd91.all fun q => okI 91 q.1 q.2) = true := by decide +kernel
set_option maxRecDepth 100000 in
theorem ok92 : (cd92.all fun q => okI 92 q.1 q.2) = true := by decide +kernel
set_option maxRecDepth 100000 in
theorem ok93 : (cd93.all fun q => okI 93 q.1 q.2) = true := by decide +kernel
set_option maxRecDepth 100000 in
theorem ok94 : (cd94.all fun q => okI 94 q.1 q.2) = true := by decide +kernel
set_option maxRecDepth 100000 in
theorem ok95 : (cd95.all fun q => okI 95 q.1 q.2) = true := by decide +kernel
set_option maxRecDepth 100000 in
theorem ok96 : (cd96.all fun q => okI 96 q.1 q.2) = true := by decide +kernel
set_option maxRecDepth 100000 in
theorem ok97 : (cd97.all fun q => okI 97 q.1 q.2) = true := by decide +kernel
set_option maxRecDepth 100000 in
theorem ok98 : (cd98.all fun q => okI 98 q.1 q.2) = true := by decide +kernel
set_option maxRecDepth 100000 in
theorem ok99 : (cd99.all fun q => okI 99 q.1 q.2) = true := by decide +kernel
set_option maxRecDepth 100000 in
theorem ok100 : (cd100.all fun q => okI 100 q.1 q.2) = true := by decide +kernel
set_option maxRecDepth 100000 in
theorem ok101 : (cd101.all fun q => okI 101 q.1 q.2) = true := by decide +kernel
set_option maxRecDepth 100000 in
theorem ok102 : (cd102.all fun q => okI 102 q.1 q.2) = true := by decide +kernel
set_option maxRecDepth 100000 in
theorem ok103 : (cd103.all fun q => okI 103 q.1 q.2) = true := by decide +kernel
set_option maxRecDepth 100000 in
theorem ok104 : (cd104.all fun q => okI 104 q.1 q.2) = true := by decide +kernel
set_option maxRecDepth 100000 in
theorem ok105 : (cd105.all fun q => okI 105 q.1 q.2) = true := by decide +kernel
set_option maxRecDepth 100000 in
theorem ok106 : (cd106.all fun q => okI 106 q.1 q.2) = true := by decide +kernel
set_option maxRecDepth 100000 in
theorem ok107 : (cd107.all fun q => okI 107 q.1 q.2) = true := by decide +kernel
set_option maxRecDepth 100000 in
theorem ok108 : (cd108.all fun q => okI 108 q.1 q.2) = true := by decide +kernel
set_option maxRecDepth 100000 in
theorem ok109 : (cd109.all fun q => okI 109 q.1 q.2) = true := by decide +kernel
set_option maxRecDepth 100000 in
theorem ok110 : (cd110.all fun q => okI 110 q.1 q.2) = true := by decide +kernel
set_option maxRecDepth 100000 in
theorem ok111 : (cd111.all fun q => okI 111 q.1 q.2) = true := by decide +kernel
set_option maxRecDepth 100000 in
theorem ok112 : (cd112.all fun q => okI 112 q.1 q.2) = true := by decide +kernel
set_option maxRecDepth 100000 in
theorem ok113 : (cd113.all fun q => okI 113 q.1 q.2) = true := by decide +kernel
set_option maxRecDepth 100000 in
theorem ok114 : (cd114.all fun q => okI 114 q.1 q.2) = true := by decide +kernel
set_option maxRecDepth 100000 in
theorem ok115 : (cd115.all fun q => okI 115 q.1 q.2) = true := by decide +kernel
set_option maxRecDepth 100000 in
theorem ok116 : (cd116.all fun q => okI 116 q.1 q.2) = true := by decide +kernel
set_option maxRecDepth 100000 in
theorem ok117 : (cd117.all fun q => okI 117 q.1 q.2) = true := by decide +kernel
set_option maxRecDepth 100000 in
theorem ok118 : (cd118.all fun q => okI 118 q.1 q.2) = true := by decide +kernel
set_option maxRecDepth 100000 in
theorem ok119 : (cd119.all fun q => okI 119 q.1 q.2) = true := by decide +kernel
set_option maxRecDepth 100000 in
theorem ok120 : (cd120.all fun q => okI 120 q.1 q.2) = true := by decide +kernel
set_option maxRecDepth 100000 in
theorem ok121 : (cd121.all fun q => okI 121 q.1 q.2) = true := by decide +kernel
set_option maxRecDepth 100000 in
theorem ok122 : (cd122.all fun q => okI 122 q.1 q.2) = true := by decide +kernel
set_option maxRecDepth 100000 in
theorem ok123 : (cd123.all fun q => okI 123 q.1 q.2) = true := by decide +kernel
set_option maxRecDepth 100000 in
theorem ok124 : (cd124.all fun q => okI 124 q.1 q.2) = true := by decide +kernel
set_option maxRecDepth 100000 in
theorem ok125 : (cd125.all fun q => okI 125 q.1 q.2) = true := by decide +kernel
set_option maxRecDepth 100000 in
theorem ok126 : (cd126.all fun q => okI 126 q.1 q.2) = true := by decide +kernel
set_option maxRecDepth 100000 in
theorem ok127 : (cd127.all fun q => okI 127 q.1 q.2) = true := by decide +kernel
set_option maxRecDepth 100000 in
theorem ok128 : (cd128.all fun q => okI 128 q.1 q.2) = true := by decide +kernel
set_option maxRecDepth 100000 in
theorem ok129 : (cd129.all fun q => okI 129 q.1 q.2) = true := by decide +kernel
set_option maxRecDepth 100000 in
theorem ok130 : (cd130.all fun q => okI 130 q.1 q.2) = true := by decide +kernel
set_option maxRecDepth 100000 in
theorem ok131 : (cd131.all fun q => okI 131 q.1 q.2) = true := by decide +kernel
set_option maxRecDepth 100000 in
theorem ok132 : (cd132.all fun q => okI 132 q.1 q.2) = true := by decide +kernel
set_option maxRecDepth 100000 in
theorem ok133_0 : (cd133_0.all fun q => okI 133 q.1 q.2) = true := by decide +kernel
set_option maxRecDepth 100000 in
theorem ok133_1 : (cd133_1.all fun q => okI 133 q.1 q.2) = true := by decide +kernel
set_option maxRecDepth 100000 in
theorem ok133_2 : (cd133_2.all fun q => okI 133 q.1 q.2) = true := by decide +kernel
theorem ok133 : (cd133.all fun q => okI 133 q.1 q.2) = true := by
  rw [cd133, List.all_append, List.all_append, ok133_0, ok133_1, ok133_2]
  try rfl
set_option maxRecDepth 100000 in
theorem ok134 : (cd134.all fun q => okI 134 q.1 q.2) = true := by decide +kernel
set_option maxRecDepth 100000 in
theorem ok135 : (cd135.all fun q => okI 135 q.1 q.2) = true := by decide +kernel
set_option maxRecDepth 100000 in
theorem ok136 : (cd136.all fun q => okI 136 q.1 q.2) = true := by decide +kernel
set_option maxRecDepth 100000 in
theorem ok137 : (cd137.all fun q => okI 137 q.1 q.2) = true := by decide +kernel
set_option maxRecDepth 100000 in
theorem ok138 : (cd138.all fun q => okI 138 q.1 q.2) = true := by decide +kernel
set_option maxRecDepth 100000 in
theorem ok139 : (cd139.all fun q => okI 139 q.1 q.2) = true := by decide +kernel
set_option maxRecDepth 100000 in
theorem ok140 : (cd140.all fun q => okI 140 q.1 q.2) = true := by decide +kernel
set_option maxRecDepth 100000 in
theorem ok141 : (cd141.all fun q => okI 141 q.1 q.2) = true := by decide +kernel
set_option maxRecDepth 100000 in
theorem ok142 : (cd142.all fun q => okI 142 q.1 q.2) = true := by decide +kernel
set_option maxRecDepth 100000 in
theorem ok143 : (cd143.all fun q => okI 143 q.1 q.2) = true := by decide +kernel
def okAll (l : List (List (Nat × LI))) (k : Nat) : Prop := ∀ (j : Nat) (c : List (Nat × LI)), l[j]? = some c → (c.all fun q => okI (k + j) q.1 q.2) = true
theorem okAll_nil (k : Nat) : okAll [] k := fun j c h => by simp at h
theorem okAll_cons {c : List (Nat × LI)} {l : List (List (Nat × LI))} {k : Nat} (h : (c.all fun q => okI k q.1 q.2) = true) (t : okAll l (k + 1)) : okAll (c :: l) k := by
  intro j d hj
  cases j with
  | zero => rw [List.getElem?_cons_zero] at hj; cases hj; exact h
  | succ j =>
    rw [List.getElem?_cons_succ] at hj
    have := t j d hj
    rw [show k + (j + 1) = k + 1 + j by omega]
    exact this
set_option maxRecDepth 100000 in
theorem okAll_cds : okAll cds 0 := okAll_cons ok0 (okAll_cons ok1 (okAll_cons ok2 (okAll_cons ok3 (okAll_cons ok4 (okAll_cons ok5 (okAll_cons ok6 (okAll_cons ok7 (okAll_cons ok8 (okAll_cons ok9 (okAll_cons ok10 (okAll_cons ok11 (okAll_cons ok12 (okAll_cons ok13 (okAll_cons ok14 (okAll_cons ok15 (okAll_cons ok16 (okAll_cons ok17 (okAll_cons ok18 (okAll_cons ok19 (okAll_cons ok20 (okAll_cons ok21 (okAll_cons ok22 (okAll_cons ok23 (okAll_cons ok24 (okAll_cons ok25 (okAll_cons ok26 (okAll_cons ok27 (okAll_cons ok28 (okAll_cons ok29 (okAll_cons ok30 (okAll_cons ok31 (okAll_cons ok32 (okAll_cons ok33 (okAll_cons ok34 (okAll_cons ok35 (okAll_cons ok36 (okAll_cons ok37 (okAll_cons ok38 (okAll_cons ok39 (okAll_cons ok40 (okAll_cons ok41 (okAll_cons ok42 (okAll_cons ok43 (okAll_cons ok44 (okAll_cons ok45 (okAll_cons ok46 (okAll_cons ok47 (okAll_cons ok48 (okAll_cons ok49 (okAll_cons ok50 (okAll_cons ok51 (okAll_cons ok52 (okAll_cons ok53 (okAll_cons ok54 (okAll_cons ok55 (okAll_cons ok56 (okAll_cons ok57 (okAll_cons ok58 (okAll_cons ok59 (okAll_cons ok60 (okAll_cons ok61 (okAll_cons ok62 (okAll_cons ok63 (okAll_cons ok64 (okAll_cons ok65 (okAll_cons ok66 (okAll_cons ok67 (okAll_cons ok68 (okAll_cons ok69 (okAll_cons ok70 (okAll_cons ok71 (okAll_cons ok72 (okAll_cons ok73 (okAll_cons ok74 (okAll_cons ok75 (okAll_cons ok76 (okAll_cons ok77 (okAll_cons ok78 (okAll_cons ok79 (okAll_cons ok80 (okAll_cons ok81 (okAll_cons ok82 (okAll_cons ok83 (okAll_cons ok84 (okAll_cons ok85 (okAll_cons ok86 (okAll_cons ok87 (okAll_cons ok88 (okAll_cons ok89 (okAll_cons ok90 (okAll_cons ok91 (okAll_cons ok92 (okAll_cons ok93 (okAll_cons ok94 (okAll_cons ok95 (okAll_cons ok96 (okAll_cons ok97 (okAll_cons ok98 (okAll_cons ok99 (okAll_cons ok100 (okAll_cons ok101 (okAll_cons ok102 (okAll_cons ok103 (okAll_cons ok104 (okAll_cons ok105 (okAll_cons ok106 (okAll_cons ok107 (okAll_cons ok108 (okAll_cons ok109 (okAll_cons ok110 (okAll_cons ok111 (okAll_cons ok112 (okAll_cons ok113 (okAll_cons ok114 (okAll_cons ok115 (okAll_cons ok116 (okAll_cons ok117 (okAll_cons ok118 (okAll_cons ok119 (okAll_cons ok120 (okAll_cons ok121 (okAll_cons ok122 (okAll_cons ok123 (okAll_cons ok124 (okAll_cons ok125 (okAll_cons ok126 (okAll_cons ok127 (okAll_cons ok128 (okAll_cons ok129 (okAll_cons ok130 (okAll_cons ok131 (okAll_cons ok132 (okAll_cons ok133 (okAll_cons ok134 (okAll_cons ok135 (okAll_cons ok136 (okAll_cons ok137 (okAll_cons ok138 (okAll_cons ok139 (okAll_cons ok140 (okAll_cons ok141 (okAll_cons ok142 (okAll_cons ok143 (okAll_nil 144))))))))))))))))))))))))))))))))))))))))))))))))))))))))))))))))))))))))))))))))))))))))))))))))))))))))))))))))))))))))))))))))))))))))))))))))
def cpos : List Nat := [71, 88, 357, 367, 371, 418, 437, 442, 473, 478, 526, 530, 534, 580, 588, 592, 596, 600, 608, 612, 639, 654, 666, 670, 680, 689, 697, 323, 402, 465, 469, 462, 642, 702, 806, 934, 707, 802, 811, 827, 831, 823, 819, 815, 845, 841, 853, 862, 871, 875, 879, 867, 882, 849, 858, 906, 902, 910, 898, 890, 887, 894, 914, 918, 927, 931, 922, 945, 941, 938, 949, 953, 957, 965, 961, 969, 973, 979, 991, 987, 995, 1000, 1004, 1008, 1012, 226, 433, 538, 542, 557, 562, 566, 576, 546, 551, 292, 617, 625, 635, 259, 429, 658, 662, 674, 684, 693, 102, 313, 422, 331, 446, 320, 327, 399, 406, 410, 414, 459, 455, 450, 604, 499, 188, 486, 482, 584, 495, 96, 363, 375, 388, 384, 380, 393, 194, 490, 570, 506, 518, 522, 514, 650, 316, 620]
theorem cw1 : Jvm.Cond.code (mm 1).1 (mm 1).2.1 (mm 1).2.2.1 (mm 1).2.2.2.1 ∈ gtbl := List.mem_filter.mpr ⟨List.mem_of_getElem? (i := 88) (by decide +kernel), by decide +kernel⟩
theorem cw2 : Jvm.Cond.code (mm 2).1 (mm 2).2.1 (mm 2).2.2.1 (mm 2).2.2.2.1 ∈ gtbl := List.mem_filter.mpr ⟨List.mem_of_getElem? (i := 357) (by decide +kernel), by decide +kernel⟩
theorem cw3 : Jvm.Cond.code (mm 3).1 (mm 3).2.1 (mm 3).2.2.1 (mm 3).2.2.2.1 ∈ gtbl := List.mem_filter.mpr ⟨List.mem_of_getElem? (i := 367) (by decide +kernel), by decide +kernel⟩
theorem cw4 : Jvm.Cond.code (mm 4).1 (mm 4).2.1 (mm 4).2.2.1 (mm 4).2.2.2.1 ∈ gtbl := List.mem_filter.mpr ⟨List.mem_of_getElem? (i := 371) (by decide +kernel), by decide +kernel⟩
theorem cw5 : Jvm.Cond.code (mm 5).1 (mm 5).2.1 (mm 5).2.2.1 (mm 5).2.2.2.1 ∈ gtbl := List.mem_filter.mpr ⟨List.mem_of_getElem? (i := 418) (by decide +kernel), by decide +kernel⟩
theorem cw6 : Jvm.Cond.code (mm 6).1 (mm 6).2.1 (mm 6).2.2.1 (mm 6).2.2.2.1 ∈ gtbl := List.mem_filter.mpr ⟨List.mem_of_getElem? (i := 437) (by decide +kernel), by decide +kernel⟩
theorem cw7 : Jvm.Cond.code (mm 7).1 (mm 7).2.1 (mm 7).2.2.1 (mm 7).2.2.2.1 ∈ gtbl := List.mem_filter.mpr ⟨List.mem_of_getElem? (i := 442) (by decide +kernel), by decide +kernel⟩
theorem cw8 : Jvm.Cond.code (mm 8).1 (mm 8).2.1 (mm 8).2.2.1 (mm 8).2.2.2.1 ∈ gtbl := List.mem_filter.mpr ⟨List.mem_of_getElem? (i := 473) (by decide +kernel), by decide +kernel⟩
theorem cw9 : Jvm.Cond.code (mm 9).1 (mm 9).2.1 (mm 9).2.2.1 (mm 9).2.2.2.1 ∈ gtbl := List.mem_filter.mpr ⟨List.mem_of_getElem? (i := 478) (by decide +kernel), by decide +kernel⟩
theorem cw10 : Jvm.Cond.code (mm 10).1 (mm 10).2.1 (mm 10).2.2.1 (mm 10).2.2.2.1 ∈ gtbl := List.mem_filter.mpr ⟨List.mem_of_getElem? (i := 526) (by decide +kernel), by decide +kernel⟩
theorem cw11 : Jvm.Cond.code (mm 11).1 (mm 11).2.1 (mm 11).2.2.1 (mm 11).2.2.2.1 ∈ gtbl := List.mem_filter.mpr ⟨List.mem_of_getElem? (i := 530) (by decide +kernel), by decide +kernel⟩
theorem cw12 : Jvm.Cond.code (mm 12).1 (mm 12).2.1 (mm 12).2.2.1 (mm 12).2.2.2.1 ∈ gtbl := List.mem_filter.mpr ⟨List.mem_of_getElem? (i := 534) (by decide +kernel), by decide +kernel⟩
theorem cw13 : Jvm.Cond.code (mm 13).1 (mm 13).2.1 (mm 13).2.2.1 (mm 13).2.2.2.1 ∈ gtbl := List.mem_filter.mpr ⟨List.mem_of_getElem? (i := 580) (by decide +kernel), by decide +kernel⟩
theorem cw14 : Jvm.Cond.code (mm 14).1 (mm 14).2.1 (mm 14).2.2.1 (mm 14).2.2.2.1 ∈ gtbl := List.mem_filter.mpr ⟨List.mem_of_getElem? (i := 588) (by decide +kernel), by decide +kernel⟩
theorem cw15 : Jvm.Cond.code (mm 15).1 (mm 15).2.1 (mm 15).2.2.1 (mm 15).2.2.2.1 ∈ gtbl := List.mem_filter.mpr ⟨List.mem_of_getElem? (i := 592) (by decide +kernel), by decide +kernel⟩
theorem cw16 : Jvm.Cond.code (mm 16).1 (mm 16).2.1 (mm 16).2.2.1 (mm 16).2.2.2.1 ∈ gtbl := List.mem_filter.mpr ⟨List.mem_of_getElem? (i := 596) (by decide +kernel), by decide +kernel⟩
theorem cw17 : Jvm.Cond.code (mm 17).1 (mm 17).2.1 (mm 17).2.2.1 (mm 17).2.2.2.1 ∈ gtbl := List.mem_filter.mpr ⟨List.mem_of_getElem? (i := 600) (by decide +kernel), by decide +kernel⟩
theorem cw18 : Jvm.Cond.code (mm 18).1 (mm 18).2.1 (mm 18).2.2.1 (mm 18).2.2.2.1 ∈ gtbl := List.mem_filter.mpr ⟨List.mem_of_getElem? (i := 608) (by decide +kernel), by decide +kernel⟩
theorem cw19 : Jvm.Cond.code (mm 19).1 (mm 19).2.1 (mm 19).2.2.1 (mm 19).2.2.2.1 ∈ gtbl := List.mem_filter.mpr ⟨List.mem_of_getElem? (i := 612) (by decide +kernel), by decide +kernel⟩
theorem cw20 : Jvm.Cond.code (mm 20).1 (mm 20).2.1 (mm 20).2.2.1 (mm 20).2.2.2.1 ∈ gtbl := List.mem_filter.mpr ⟨List.mem_of_getElem? (i := 639) (by decide +kernel), by decide +kernel⟩
theorem cw21 : Jvm.Cond.code (mm 21).1 (mm 21).2.1 (mm 21).2.2.1 (mm 21).2.2.2.1 ∈ gtbl := List.mem_filter.mpr ⟨List.mem_of_getElem? (i := 654) (by decide +kernel), by decide +kernel⟩
theorem cw22 : Jvm.Cond.code (mm 22).1 (mm 22).2.1 (mm 22).2.2.1 (mm 22).2.2.2.1 ∈ gtbl := List.mem_filter.mpr ⟨List.mem_of_getElem? (i := 666) (by decide +kernel), by decide +kernel⟩
theorem cw23 : Jvm.Cond.code (mm 23).1 (mm 23).2.1 (mm 23).2.2.1 (mm 23).2.2.2.1 ∈ gtbl := List.mem_filter.mpr ⟨List.mem_of_getElem? (i := 670) (by decide +kernel), by decide +kernel⟩
theorem cw24 : Jvm.Cond.code (mm 24).1 (mm 24).2.1 (mm 24).2.2.1 (mm 24).2.2.2.1 ∈ gtbl := List.mem_filter.mpr ⟨List.mem_of_getElem? (i := 680) (by decide +kernel), by decide +kernel⟩
theorem cw25 : Jvm.Cond.code (mm 25).1 (mm 25).2.1 (mm 25).2.2.1 (mm 25).2.2.2.1 ∈ gtbl := List.mem_filter.mpr ⟨List.mem_of_getElem? (i := 689) (by decide +kernel), by decide +kernel⟩
theorem cw26 : Jvm.Cond.code (mm 26).1 (mm 26).2.1 (mm 26).2.2.1 (mm 26).2.2.2.1 ∈ gtbl := List.mem_filter.mpr ⟨List.mem_of_getElem? (i := 697) (by decide +kernel), by decide +kernel⟩
theorem cw27 : Jvm.Cond.code (mm 27).1 (mm 27).2.1 (mm 27).2.2.1 (mm 27).2.2.2.1 ∈ gtbl := List.mem_filter.mpr ⟨List.mem_of_getElem? (i := 323) (by decide +kernel), by decide +kernel⟩
theorem cw28 : Jvm.Cond.code (mm 28).1 (mm 28).2.1 (mm 28).2.2.1 (mm 28).2.2.2.1 ∈ gtbl := List.mem_filter.mpr ⟨List.mem_of_getElem? (i := 402) (by decide +kernel), by decide +kernel⟩
theorem cw29 : Jvm.Cond.code (mm 29).1 (mm 29).2.1 (mm 29).2.2.1 (mm 29).2.2.2.1 ∈ gtbl := List.mem_filter.mpr ⟨List.mem_of_getElem? (i := 465) (by decide +kernel), by decide +kernel⟩
theorem cw30 : Jvm.Cond.code (mm 30).1 (mm 30).2.1 (mm 30).2.2.1 (mm 30).2.2.2.1 ∈ gtbl := List.mem_filter.mpr ⟨List.mem_of_getElem? (i := 469) (by decide +kernel), by decide +kernel⟩
theorem cw31 : Jvm.Cond.code (mm 31).1 (mm 31).2.1 (mm 31).2.2.1 (mm 31).2.2.2.1 ∈ gtbl := List.mem_filter.mpr ⟨List.mem_of_getElem? (i := 462) (by decide +kernel), by decide +kernel⟩
theorem cw32 : Jvm.Cond.code (mm 32).1 (mm 32).2.1 (mm 32).2.2.1 (mm 32).2.2.2.1 ∈ gtbl := List.mem_filter.mpr ⟨List.mem_of_getElem? (i := 642) (by decide +kernel), by decide +kernel⟩
theorem cw33 : Jvm.Cond.code (mm 33).1 (mm 33).2.1 (mm 33).2.2.1 (mm 33).2.2.2.1 ∈ gtbl := List.mem_filter.mpr ⟨List.mem_of_getElem? (i := 702) (by decide +kernel), by decide +kernel⟩
theorem cw34 : Jvm.Cond.code (mm 34).1 (mm 34).2.1 (mm 34).2.2.1 (mm 34).2.2.2.1 ∈ gtbl := List.mem_filter.mpr ⟨List.mem_of_getElem? (i := 806) (by decide +kernel), by decide +kernel⟩
theorem cw35 : Jvm.Cond.code (mm 35).1 (mm 35).2.1 (mm 35).2.2.1 (mm 35).2.2.2.1 ∈ gtbl := List.mem_filter.mpr ⟨List.mem_of_getElem? (i := 934) (by decide +kernel), by decide +kernel⟩
theorem cw36 : Jvm.Cond.code (mm 36).1 (mm 36).2.1 (mm 36).2.2.1 (mm 36).2.2.2.1 ∈ gtbl := List.mem_filter.mpr ⟨List.mem_of_getElem? (i := 707) (by decide +kernel), by decide +kernel⟩
theorem cw37 : Jvm.Cond.code (mm 37).1 (mm 37).2.1 (mm 37).2.2.1 (mm 37).2.2.2.1 ∈ gtbl := List.mem_filter.mpr ⟨List.mem_of_getElem? (i := 802) (by decide +kernel), by decide +kernel⟩
theorem cw38 : Jvm.Cond.code (mm 38).1 (mm 38).2.1 (mm 38).2.2.1 (mm 38).2.2.2.1 ∈ gtbl := List.mem_filter.mpr ⟨List.mem_of_getElem? (i := 811) (by decide +kernel), by decide +kernel⟩
theorem cw39 : Jvm.Cond.code (mm 39).1 (mm 39).2.1 (mm 39).2.2.1 (mm 39).2.2.2.1 ∈ gtbl := List.mem_filter.mpr ⟨List.mem_of_getElem? (i := 827) (by decide +kernel), by decide +kernel⟩
theorem cw40 : Jvm.Cond.code (mm 40).1 (mm 40).2.1 (mm 40).2.2.1 (mm 40).2.2.2.1 ∈ gtbl := List.mem_filter.mpr ⟨List.mem_of_getElem? (i := 831) (by decide +kernel), by decide +kernel⟩
theorem cw41 : Jvm.Cond.code (mm 41).1 (mm 41).2.1 (mm 41).2.2.1 (mm 41).2.2.2.1 ∈ gtbl := List.mem_filter.mpr ⟨List.mem_of_getElem? (i := 823) (by decide +kernel), by decide +kernel⟩
theorem cw42 : Jvm.Cond.code (mm 42).1 (mm 42).2.1 (mm 42).2.2.1 (mm 42).2.2.2.1 ∈ gtbl := List.mem_filter.mpr ⟨List.mem_of_getElem? (i := 819) (by decide +kernel), by decide +kernel⟩
theorem cw43 : Jvm.Cond.code (mm 43).1 (mm 43).2.1 (mm 43).2.2.1 (mm 43).2.2.2.1 ∈ gtbl := List.mem_filter.mpr ⟨List.mem_of_getElem? (i := 815) (by decide +kernel), by decide +kernel⟩
theorem cw44 : Jvm.Cond.code (mm 44).1 (mm 44).2.1 (mm 44).2.2.1 (mm 44).2.2.2.1 ∈ gtbl := List.mem_filter.mpr ⟨List.mem_of_getElem? (i := 845) (by decide +kernel), by decide +kernel⟩
theorem cw45 : Jvm.Cond.code (mm 45).1 (mm 45).2.1 (mm 45).2.2.1 (mm 45).2.2.2.1 ∈ gtbl := List.mem_filter.mpr ⟨List.mem_of_getElem? (i := 841) (by decide +kernel), by decide +kernel⟩
theorem cw46 : Jvm.Cond.code (mm 46).1 (mm 46).2.1 (mm 46).2.2.1 (mm 46).2.2.2.1 ∈ gtbl := List.mem_filter.mpr ⟨List.mem_of_getElem? (i := 853) (by decide +kernel), by decide +kernel⟩
theorem cw47 : Jvm.Cond.code (mm 47).1 (mm 47).2.1 (mm 47).2.2.1 (mm 47).2.2.2.1 ∈ gtbl := List.mem_filter.mpr ⟨List.mem_of_getElem? (i := 862) (by decide +kernel), by decide +kernel⟩
theorem cw48 : Jvm.Cond.code (mm 48).1 (mm 48).2.1 (mm 48).2.2.1 (mm 48).2.2.2.1 ∈ gtbl := List.mem_filter.mpr ⟨List.mem_of_getElem? (i := 871) (by decide +kernel), by decide +kernel⟩
theorem cw49 : Jvm.Cond.code (mm 49).1 (mm 49).2.1 (mm 49).2.2.1 (mm 49).2.2.2.1 ∈ gtbl := List.mem_filter.mpr ⟨List.mem_of_getElem? (i := 875) (by decide +kernel), by decide +kernel⟩
theorem cw50 : Jvm.Cond.code (mm 50).1 (mm 50).2.1 (mm 50).2.2.1 (mm 50).2.2.2.1 ∈ gtbl := List.mem_filter.mpr ⟨List.mem_of_getElem? (i := 879) (by decide +kernel), by decide +kernel⟩
theorem cw51 : Jvm.Cond.code (mm 51).1 (mm 51).2.1 (mm 51).2.2.1 (mm 51).2.2.2.1 ∈ gtbl := List.mem_filter.mpr ⟨List.mem_of_getElem? (i := 867) (by decide +kernel), by decide +kernel⟩
theorem cw52 : Jvm.Cond.code (mm 52).1 (mm 52).2.1 (mm 52).2.2.1 (mm 52).2.2.2.1 ∈ gtbl := List.mem_filter.mpr ⟨List.mem_of_getElem? (i := 882) (by decide +kernel), by decide +kernel⟩
theorem cw53 : Jvm.Cond.code (mm 53).1 (mm 53).2.1 (mm 53).2.2.1 (mm 53).2.2.2.1 ∈ gtbl := List.mem_filter.mpr ⟨List.mem_of_getElem? (i := 849) (by decide +kernel), by decide +kernel⟩
theorem cw54 : Jvm.Cond.code (mm 54).1 (mm 54).2.1 (mm 54).2.2.1 (mm 54).2.2.2.1 ∈ gtbl := List.mem_filter.mpr ⟨List.mem_of_getElem? (i := 858) (by decide +kernel), by decide +kernel⟩
theorem cw55 : Jvm.Cond.code (mm 55).1 (mm 55).2.1 (mm 55).2.2.1 (mm 55).2.2.2.1 ∈ gtbl := List.mem_filter.mpr ⟨List.mem_of_getElem? (i := 906) (by decide +kernel), by decide +kernel⟩
theorem cw56 : Jvm.Cond.code (mm 56).1 (mm 56).2.1 (mm 56).2.2.1 (mm 56).2.2.2.1 ∈ gtbl := List.mem_filter.mpr ⟨List.mem_of_getElem? (i := 902) (by decide +kernel), by decide +kernel⟩
theorem cw57 : Jvm.Cond.code (mm 57).1 (mm 57).2.1 (mm 57).2.2.1 (mm 57).2.2.2.1 ∈ gtbl := List.mem_filter.mpr ⟨List.mem_of_getElem? (i := 910) (by decide +kernel), by decide +kernel⟩
theorem cw58 : Jvm.Cond.code (mm 58).1 (mm 58).2.1 (mm 58).2.2.1 (mm 58).2.2.2.1 ∈ gtbl := List.mem_filter.mpr ⟨List.mem_of_getElem? (i := 898) (by decide +kernel), by decide +kernel⟩
theorem cw59 : Jvm.Cond.code (mm 59).1 (mm 59).2.1 (mm 59).2.2.1 (mm 59).2.2.2.1 ∈ gtbl := List.mem_filter.mpr ⟨List.mem_of_getElem? (i := 890) (by decide +kernel), by decide +kernel⟩
theorem cw60 : Jvm.Cond.code (mm 60).1 (mm 60).2.1 (mm 60).2.2.1 (mm 60).2.2.2.1 ∈ gtbl := List.mem_filter.mpr ⟨List.mem_of_getElem? (i := 887) (by decide +kernel), by decide +kernel⟩
theorem cw61 : Jvm.Cond.code (mm 61).1 (mm 61).2.1 (mm 61).2.2.1 (mm 61).2.2.2.1 ∈ gtbl := List.mem_filter.mpr ⟨List.mem_of_getElem? (i := 894) (by decide +kernel), by decide +kernel⟩
theorem cw62 : Jvm.Cond.code (mm 62).1 (mm 62).2.1 (mm 62).2.2.1 (mm 62).2.2.2.1 ∈ gtbl := List.mem_filter.mpr ⟨List.mem_of_getElem? (i := 914) (by decide +kernel), by decide +kernel⟩
theorem cw63 : Jvm.Cond.code (mm 63).1 (mm 63).2.1 (mm 63).2.2.1 (mm 63).2.2.2.1 ∈ gtbl := List.mem_filter.mpr ⟨List.mem_of_getElem? (i := 918) (by decide +kernel), by decide +kernel⟩
theorem cw64 : Jvm.Cond.code (mm 64).1 (mm 64).2.1 (mm 64).2.2.1 (mm 64).2.2.2.1 ∈ gtbl := List.mem_filter.mpr ⟨List.mem_of_getElem? (i := 927) (by decide +kernel), by decide +kernel⟩
theorem cw65 : Jvm.Cond.code (mm 65).1 (mm 65).2.1 (mm 65).2.2.1 (mm 65).2.2.2.1 ∈ gtbl := List.mem_filter.mpr ⟨List.mem_of_getElem? (i := 931) (by decide +kernel), by decide +kernel⟩
theorem cw66 : Jvm.Cond.code (mm 66).1 (mm 66).2.1 (mm 66).2.2.1 (mm 66).2.2.2.1 ∈ gtbl := List.mem_filter.mpr ⟨List.mem_of_getElem? (i := 922) (by decide +kernel), by decide +kernel⟩
theorem cw67 : Jvm.Cond.code (mm 67).1 (mm 67).2.1 (mm 67).2.2.1 (mm 67).2.2.2.1 ∈ gtbl := List.mem_filter.mpr ⟨List.mem_of_getElem? (i := 945) (by decide +kernel), by decide +kernel⟩
theorem cw68 : Jvm.Cond.code (mm 68).1 (mm 68).2.1 (mm 68).2.2.1 (mm 68).2.2.2.1 ∈ gtbl := List.mem_filter.mpr ⟨List.mem_of_getElem? (i := 941) (by decide +kernel), by decide +kernel⟩
theorem cw69 : Jvm.Cond.code (mm 69).1 (mm 69).2.1 (mm 69).2.2.1 (mm 69).2.2.2.1 ∈ gtbl := List.mem_filter.mpr ⟨List.mem_of_getElem? (i := 938) (by decide +kernel), by decide +kernel⟩
theorem cw70 : Jvm.Cond.code (mm 70).1 (mm 70).2.1 (mm 70).2.2.1 (mm 70).2.2.2.1 ∈ gtbl := List.mem_filter.mpr ⟨List.mem_of_getElem? (i := 949) (by decide +kernel), by decide +kernel⟩
theorem cw71 : Jvm.Cond.code (mm 71).1 (mm 71).2.1 (mm 71).2.2.1 (mm 71).2.2.2.1 ∈ gtbl := List.mem_filter.mpr ⟨List.mem_of_getElem? (i := 953) (by decide +kernel), by decide +kernel⟩
theorem cw72 : Jvm.Cond.code (mm 72).1 (mm 72).2.1 (mm 72).2.2.1 (mm 72).2.2.2.1 ∈ gtbl := List.mem_filter.mpr ⟨List.mem_of_getElem? (i := 957) (by decide +kernel), by decide +kernel⟩
theorem cw73 : Jvm.Cond.code (mm 73).1 (mm 73).2.1 (mm 73).2.2.1 (mm 73).2.2.2.1 ∈ gtbl := List.mem_filter.mpr ⟨List.mem_of_getElem? (i := 965) (by decide +kernel), by decide +kernel⟩
theorem cw74 : Jvm.Cond.code (mm 74).1 (mm 74).2.1 (mm 74).2.2.1 (mm 74).2.2.2.1 ∈ gtbl := List.mem_filter.mpr ⟨List.mem_of_getElem? (i := 961) (by decide +kernel), by decide +kernel⟩
theorem cw75 : Jvm.Cond.code (mm 75).1 (mm 75).2.1 (mm 75).2.2.1 (mm 75).2.2.2.1 ∈ gtbl := List.mem_filter.mpr ⟨List.mem_of_getElem? (i := 969) (by decide +kernel), by decide +kernel⟩
theorem cw76 : Jvm.Cond.code (mm 76).1 (mm 76).2.1 (mm 76).2.2.1 (mm 76).2.2.2.1 ∈ gtbl := List.mem_filter.mpr ⟨List.mem_of_getElem? (i := 973) (by decide +kernel), by decide +kernel⟩
theorem cw77 : Jvm.Cond.code (mm 77).1 (mm 77).2.1 (mm 77).2.2.1 (mm 77).2.2.2.1 ∈ gtbl := List.mem_filter.mpr ⟨List.mem_of_getElem? (i := 979) (by decide +kernel), by decide +kernel⟩
theorem cw78 : Jvm.Cond.code (mm 78).1 (mm 78).2.1 (mm 78).2.2.1 (mm 78).2.2.2.1 ∈ gtbl := List.mem_filter.mpr ⟨List.mem_of_getElem? (i := 991) (by decide +kernel), by decide +kernel⟩
theorem cw79 : Jvm.Cond.code (mm 79).1 (mm 79).2.1 (mm 79).2.2.1 (mm 79).2.2.2.1 ∈ gtbl := List.mem_filter.mpr ⟨List.mem_of_getElem? (i := 987) (by decide +kernel), by decide +kernel⟩
theorem cw80 : Jvm.Cond.code (mm 80).1 (mm 80).2.1 (mm 80).2.2.1 (mm 80).2.2.2.1 ∈ gtbl := List.mem_filter.mpr ⟨List.mem_of_getElem? (i := 995) (by decide +kernel), by decide +kernel⟩
theorem cw81 : Jvm.Cond.code (mm 81).1 (mm 81).2.1 (mm 81).2.2.1 (mm 81).2.2.2.1 ∈ gtbl := List.mem_filter.mpr ⟨List.mem_of_getElem? (i := 1000) (by decide +kernel), by decide +kernel⟩
theorem cw82 : Jvm.Cond.code (mm 82).1 (mm 82).2.1 (mm 82).2.2.1 (mm 82).2.2.2.1 ∈ gtbl := List.mem_filter.mpr ⟨List.mem_of_getElem? (i := 1004) (by decide +kernel), by decide +kernel⟩
theorem cw83 : Jvm.Cond.code (mm 83).1 (mm 83).2.1 (mm 83).2.2.1 (mm 83).2.2.2.1 ∈ gtbl := List.mem_filter.mpr ⟨List.mem_of_getElem? (i := 1008) (by decide +kernel), by decide +kernel⟩
theorem cw84 : Jvm.Cond.code (mm 84).1 (mm 84).2.1 (mm 84).2.2.1 (mm 84).2.2.2.1 ∈ gtbl := List.mem_filter.mpr ⟨List.mem_of_getElem? (i := 1012) (by decide +kernel), by decide +kernel⟩
theorem cw85 : Jvm.Cond.code (mm 85).1 (mm 85).2.1 (mm 85).2.2.1 (mm 85).2.2.2.1 ∈ gtbl := List.mem_filter.mpr ⟨List.mem_of_getElem? (i := 226) (by decide +kernel), by decide +kernel⟩
theorem cw86 : Jvm.Cond.code (mm 86).1 (mm 86).2.1 (mm 86).2.2.1 (mm 86).2.2.2.1 ∈ gtbl := List.mem_filter.mpr ⟨List.mem_of_getElem? (i := 433) (by decide +kernel), by decide +kernel⟩
theorem cw87 : Jvm.Cond.code (mm 87).1 (mm 87).2.1 (mm 87).2.2.1 (mm 87).2.2.2.1 ∈ gtbl := List.mem_filter.mpr ⟨List.mem_of_getElem? (i := 538) (by decide +kernel), by decide +kernel⟩
theorem cw88 : Jvm.Cond.code (mm 88).1 (mm 88).2.1 (mm 88).2.2.1 (mm 88).2.2.2.1 ∈ gtbl := List.mem_filter.mpr ⟨List.mem_of_getElem? (i := 542) (by decide +kernel), by decide +kernel⟩
theorem cw89 : Jvm.Cond.code (mm 89).1 (mm 89).2.1 (mm 89).2.2.1 (mm 89).2.2.2.1 ∈ gtbl := List.mem_filter.mpr ⟨List.mem_of_getElem? (i := 557) (by decide +kernel), by decide +kernel⟩
theorem cw90 : Jvm.Cond.code (mm 90).1 (mm 90).2.1 (mm 90).2.2.1 (mm 90).2.2.2.1 ∈ gtbl := List.mem_filter.mpr ⟨List.mem_of_getElem? (i := 562) (by decide +kernel), by decide +kernel⟩
theorem cw91 : Jvm.Cond.code (mm 91).1 (mm 91).2.1 (mm 91).2.2.1 (mm 91).2.2.2.1 ∈ gtbl := List.mem_filter.mpr ⟨List.mem_of_getElem? (i := 566) (by decide +kernel), by decide +kernel⟩
theorem cw92 : Jvm.Cond.code (mm 92).1 (mm 92).2.1 (mm 92).2.2.1 (mm 92).2.2.2.1 ∈ gtbl := List.mem_filter.mpr ⟨List.mem_of_getElem? (i := 576) (by decide +kernel), by decide +kernel⟩
theorem cw93 : Jvm.Cond.code (mm 93).1 (mm 93).2.1 (mm 93).2.2.1 (mm 93).2.2.2.1 ∈ gtbl := List.mem_filter.mpr ⟨List.mem_of_getElem? (i := 546) (by decide +kernel), by decide +kernel⟩
theorem cw94 : Jvm.Cond.code (mm 94).1 (mm 94).2.1 (mm 94).2.2.1 (mm 94).2.2.2.1 ∈ gtbl := List.mem_filter.mpr ⟨List.mem_of_getElem? (i := 551) (by decide +kernel), by decide +kernel⟩
theorem cw95 : Jvm.Cond.code (mm 95).1 (mm 95).2.1 (mm 95).2.2.1 (mm 95).2.2.2.1 ∈ gtbl := List.mem_filter.mpr ⟨List.mem_of_getElem? (i := 292) (by decide +kernel), by decide +kernel⟩
theorem cw96 : Jvm.Cond.code (mm 96).1 (mm 96).2.1 (mm 96).2.2.1 (mm 96).2.2.2.1 ∈ gtbl := List.mem_filter.mpr ⟨List.mem_of_getElem? (i := 617) (by decide +kernel), by decide +kernel⟩
theorem cw97 : Jvm.Cond.code (mm 97).1 (mm 97).2.1 (mm 97).2.2.1 (mm 97).2.2.2.1 ∈ gtbl := List.mem_filter.mpr ⟨List.mem_of_getElem? (i := 625) (by decide +kernel), by decide +kernel⟩
theorem cw98 : Jvm.Cond.code (mm 98).1 (mm 98).2.1 (mm 98).2.2.1 (mm 98).2.2.2.1 ∈ gtbl := List.mem_filter.mpr ⟨List.mem_of_getElem? (i := 635) (by decide +kernel), by decide +kernel⟩
theorem cw99 : Jvm.Cond.code (mm 99).1 (mm 99).2.1 (mm 99).2.2.1 (mm 99).2.2.2.1 ∈ gtbl := List.mem_filter.mpr ⟨List.mem_of_getElem? (i := 259) (by decide +kernel), by decide +kernel⟩
theorem cw100 : Jvm.Cond.code (mm 100).1 (mm 100).2.1 (mm 100).2.2.1 (mm 100).2.2.2.1 ∈ gtbl := List.mem_filter.mpr ⟨List.mem_of_getElem? (i := 429) (by decide +kernel), by decide +kernel⟩
theorem cw101 : Jvm.Cond.code (mm 101).1 (mm 101).2.1 (mm 101).2.2.1 (mm 101).2.2.2.1 ∈ gtbl := List.mem_filter.mpr ⟨List.mem_of_getElem? (i := 658) (by decide +kernel), by decide +kernel⟩
theorem cw102 : Jvm.Cond.code (mm 102).1 (mm 102).2.1 (mm 102).2.2.1 (mm 102).2.2.2.1 ∈ gtbl := List.mem_filter.mpr ⟨List.mem_of_getElem? (i := 662) (by decide +kernel), by decide +kernel⟩
theorem cw103 : Jvm.Cond.code (mm 103).1 (mm 103).2.1 (mm 103).2.2.1 (mm 103).2.2.2.1 ∈ gtbl := List.mem_filter.mpr ⟨List.mem_of_getElem? (i := 674) (by decide +kernel), by decide +kernel⟩
theorem cw104 : Jvm.Cond.code (mm 104).1 (mm 104).2.1 (mm 104).2.2.1 (mm 104).2.2.2.1 ∈ gtbl := List.mem_filter.mpr ⟨List.mem_of_getElem? (i := 684) (by decide +kernel), by decide +kernel⟩
theorem cw105 : Jvm.Cond.code (mm 105).1 (mm 105).2.1 (mm 105).2.2.1 (mm 105).2.2.2.1 ∈ gtbl := List.mem_filter.mpr ⟨List.mem_of_getElem? (i := 693) (by decide +kernel), by decide +kernel⟩
theorem cw106 : Jvm.Cond.code (mm 106).1 (mm 106).2.1 (mm 106).2.2.1 (mm 106).2.2.2.1 ∈ gtbl := List.mem_filter.mpr ⟨List.mem_of_getElem? (i := 102) (by decide +kernel), by decide +kernel⟩
theorem cw107 : Jvm.Cond.code (mm 107).1 (mm 107).2.1 (mm 107).2.2.1 (mm 107).2.2.2.1 ∈ gtbl := List.mem_filter.mpr ⟨List.mem_of_getElem? (i := 313) (by decide +kernel), by decide +kernel⟩
theorem cw108 : Jvm.Cond.code (mm 108).1 (mm 108).2.1 (mm 108).2.2.1 (mm 108).2.2.2.1 ∈ gtbl := List.mem_filter.mpr ⟨List.mem_of_getElem? (i := 422) (by decide +kernel), by decide +kernel⟩
theorem cw109 : Jvm.Cond.code (mm 109).1 (mm 109).2.1 (mm 109).2.2.1 (mm 109).2.2.2.1 ∈ gtbl := List.mem_filter.mpr ⟨List.mem_of_getElem? (i := 331) (by decide +kernel), by decide +kernel⟩
theorem cw110 : Jvm.Cond.code (mm 110).1 (mm 110).2.1 (mm 110).2.2.1 (mm 110).2.2.2.1 ∈ gtbl := List.mem_filter.mpr ⟨List.mem_of_getElem? (i := 446) (by decide +kernel), by decide +kernel⟩
theorem cw111 : Jvm.Cond.code (mm 111).1 (mm 111).2.1 (mm 111).2.2.1 (mm 111).2.2.2.1 ∈ gtbl := List.mem_filter.mpr ⟨List.mem_of_getElem? (i := 320) (by decide +kernel), by decide +kernel⟩
theorem cw112 : Jvm.Cond.code (mm 112).1 (mm 112).2.1 (mm 112).2.2.1 (mm 112).2.2.2.1 ∈ gtbl := List.mem_filter.mpr ⟨List.mem_of_getElem? (i := 327) (by decide +kernel), by decide +kernel⟩
theorem cw113 : Jvm.Cond.code (mm 113).1 (mm 113).2.1 (mm 113).2.2.1 (mm 113).2.2.2.1 ∈ gtbl := List.mem_filter.mpr ⟨List.mem_of_getElem? (i := 399) (by decide +kernel), by decide +kernel⟩
theorem cw114 : Jvm.Cond.code (mm 114).1 (mm 114).2.1 (mm 114).2.2.1 (mm 114).2.2.2.1 ∈ gtbl := List.mem_filter.mpr ⟨List.mem_of_getElem? (i := 406) (by decide +kernel), by decide +kernel⟩
theorem cw115 : Jvm.Cond.code (mm 115).1 (mm 115).2.1 (mm 115).2.2.1 (mm 115).2.2.2.1 ∈ gtbl := List.mem_filter.mpr ⟨List.mem_of_getElem? (i := 410) (by decide +kernel), by decide +kernel⟩
theorem cw116 : Jvm.Cond.code (mm 116).1 (mm 116).2.1 (mm 116).2.2.1 (mm 116).2.2.2.1 ∈ gtbl := List.mem_filter.mpr ⟨List.mem_of_getElem? (i := 414) (by decide +kernel), by decide +kernel⟩
theorem cw117 : Jvm.Cond.code (mm 117).1 (mm 117).2.1 (mm 117).2.2.1 (mm 117).2.2.2.1 ∈ gtbl := List.mem_filter.mpr ⟨List.mem_of_getElem? (i := 459) (by decide +kernel), by decide +kernel⟩
theorem cw118 : Jvm.Cond.code (mm 118).1 (mm 118).2.1 (mm 118).2.2.1 (mm 118).2.2.2.1 ∈ gtbl := List.mem_filter.mpr ⟨List.mem_of_getElem? (i := 455) (by decide +kernel), by decide +kernel⟩
theorem cw119 : Jvm.Cond.code (mm 119).1 (mm 119).2.1 (mm 119).2.2.1 (mm 119).2.2.2.1 ∈ gtbl := List.mem_filter.mpr ⟨List.mem_of_getElem? (i := 450) (by decide +kernel), by decide +kernel⟩
theorem cw120 : Jvm.Cond.code (mm 120).1 (mm 120).2.1 (mm 120).2.2.1 (mm 120).2.2.2.1 ∈ gtbl := List.mem_filter.mpr ⟨List.mem_of_getElem? (i := 604) (by decide +kernel), by decide +kernel⟩
theorem cw121 : Jvm.Cond.code (mm 121).1 (mm 121).2.1 (mm 121).2.2.1 (mm 121).2.2.2.1 ∈ gtbl := List.mem_filter.mpr ⟨List.mem_of_getElem? (i := 499) (by decide +kernel), by decide +kernel⟩
theorem cw122 : Jvm.Cond.code (mm 122).1 (mm 122).2.1 (mm 122).2.2.1 (mm 122).2.2.2.1 ∈ gtbl := List.mem_filter.mpr ⟨List.mem_of_getElem? (i := 188) (by decide +kernel), by decide +kernel⟩
theorem cw123 : Jvm.Cond.code (mm 123).1 (mm 123).2.1 (mm 123).2.2.1 (mm 123).2.2.2.1 ∈ gtbl := List.mem_filter.mpr ⟨List.mem_of_getElem? (i := 486) (by decide +kernel), by decide +kernel⟩
theorem cw124 : Jvm.Cond.code (mm 124).1 (mm 124).2.1 (mm 124).2.2.1 (mm 124).2.2.2.1 ∈ gtbl := List.mem_filter.mpr ⟨List.mem_of_getElem? (i := 482) (by decide +kernel), by decide +kernel⟩
theorem cw125 : Jvm.Cond.code (mm 125).1 (mm 125).2.1 (mm 125).2.2.1 (mm 125).2.2.2.1 ∈ gtbl := List.mem_filter.mpr ⟨List.mem_of_getElem? (i := 584) (by decide +kernel), by decide +kernel⟩
theorem cw126 : Jvm.Cond.code (mm 126).1 (mm 126).2.1 (mm 126).2.2.1 (mm 126).2.2.2.1 ∈ gtbl := List.mem_filter.mpr ⟨List.mem_of_getElem? (i := 495) (by decide +kernel), by decide +kernel⟩
theorem cw127 : Jvm.Cond.code (mm 127).1 (mm 127).2.1 (mm 127).2.2.1 (mm 127).2.2.2.1 ∈ gtbl := List.mem_filter.mpr ⟨List.mem_of_getElem? (i := 96) (by decide +kernel), by decide +kernel⟩
theorem cw128 : Jvm.Cond.code (mm 128).1 (mm 128).2.1 (mm 128).2.2.1 (mm 128).2.2.2.1 ∈ gtbl := List.mem_filter.mpr ⟨List.mem_of_getElem? (i := 363) (by decide +kernel), by decide +kernel⟩
theorem cw129 : Jvm.Cond.code (mm 129).1 (mm 129).2.1 (mm 129).2.2.1 (mm 129).2.2.2.1 ∈ gtbl := List.mem_filter.mpr ⟨List.mem_of_getElem? (i := 375) (by decide +kernel), by decide +kernel⟩
theorem cw130 : Jvm.Cond.code (mm 130).1 (mm 130).2.1 (mm 130).2.2.1 (mm 130).2.2.2.1 ∈ gtbl := List.mem_filter.mpr ⟨List.mem_of_getElem? (i := 388) (by decide +kernel), by decide +kernel⟩
theorem cw131 : Jvm.Cond.code (mm 131).1 (mm 131).2.1 (mm 131).2.2.1 (mm 131).2.2.2.1 ∈ gtbl := List.mem_filter.mpr ⟨List.mem_of_getElem? (i := 384) (by decide +kernel), by decide +kernel⟩
theorem cw132 : Jvm.Cond.code (mm 132).1 (mm 132).2.1 (mm 132).2.2.1 (mm 132).2.2.2.1 ∈ gtbl := List.mem_filter.mpr ⟨List.mem_of_getElem? (i := 380) (by decide +kernel), by decide +kernel⟩
theorem cw133 : Jvm.Cond.code (mm 133).1 (mm 133).2.1 (mm 133).2.2.1 (mm 133).2.2.2.1 ∈ gtbl := List.mem_filter.mpr ⟨List.mem_of_getElem? (i := 393) (by decide +kernel), by decide +kernel⟩
theorem cw134 : Jvm.Cond.code (mm 134).1 (mm 134).2.1 (mm 134).2.2.1 (mm 134).2.2.2.1 ∈ gtbl := List.mem_filter.mpr ⟨List.mem_of_getElem? (i := 194) (by decide +kernel), by decide +kernel⟩
theorem cw135 : Jvm.Cond.code (mm 135).1 (mm 135).2.1 (mm 135).2.2.1 (mm 135).2.2.2.1 ∈ gtbl := List.mem_filter.mpr ⟨List.mem_of_getElem? (i := 490) (by decide +kernel), by decide +kernel⟩
theorem cw136 : Jvm.Cond.code (mm 136).1 (mm 136).2.1 (mm 136).2.2.1 (mm 136).2.2.2.1 ∈ gtbl := List.mem_filter.mpr ⟨List.mem_of_getElem? (i := 570) (by decide +kernel), by decide +kernel⟩
theorem cw137 : Jvm.Cond.code (mm 137).1 (mm 137).2.1 (mm 137).2.2.1 (mm 137).2.2.2.1 ∈ gtbl := List.mem_filter.mpr ⟨List.mem_of_getElem? (i := 506) (by decide +kernel), by decide +kernel⟩
theorem cw138 : Jvm.Cond.code (mm 138).1 (mm 138).2.1 (mm 138).2.2.1 (mm 138).2.2.2.1 ∈ gtbl := List.mem_filter.mpr ⟨List.mem_of_getElem? (i := 518) (by decide +kernel), by decide +kernel⟩
theorem cw139 : Jvm.Cond.code (mm 139).1 (mm 139).2.1 (mm 139).2.2.1 (mm 139).2.2.2.1 ∈ gtbl := List.mem_filter.mpr ⟨List.mem_of_getElem? (i := 522) (by decide +kernel), by decide +kernel⟩
theorem cw140 : Jvm.Cond.code (mm 140).1 (mm 140).2.1 (mm 140).2.2.1 (mm 140).2.2.2.1 ∈ gtbl := List.mem_filter.mpr ⟨List.mem_of_getElem? (i := 514) (by decide +kernel), by decide +kernel⟩
theorem cw141 : Jvm.Cond.code (mm 141).1 (mm 141).2.1 (mm 141).2.2.1 (mm 141).2.2.2.1 ∈ gtbl := List.mem_filter.mpr ⟨List.mem_of_getElem? (i := 650) (by decide +kernel), by decide +kernel⟩
theorem cw142 : Jvm.Cond.code (mm 142).1 (mm 142).2.1 (mm 142).2.2.1 (mm 142).2.2.2.1 ∈ gtbl := List.mem_filter.mpr ⟨List.mem_of_getElem? (i := 316) (by decide +kernel), by decide +kernel⟩
theorem cw143 : Jvm.Cond.code (mm 143).1 (mm 143).2.1 (mm 143).2.2.1 (mm 143).2.2.2.1 ∈ gtbl := List.mem_filter.mpr ⟨List.mem_of_getElem? (i := 620) (by decide +kernel), by decide +kernel⟩
def cwP (k : Nat) : Prop := Jvm.Cond.code (mm k).1 (mm k).2.1 (mm k).2.2.1 (mm k).2.2.2.1 ∈ gtbl
def cwAll (a n : Nat) : Prop := ∀ k, a ≤ k → k < a + n → cwP k
theorem cwAll_0 (a : Nat) : cwAll a 0 := fun k h1 h2 => by omega
theorem cwAll_s {a n : Nat} (h : cwP a) (t : cwAll (a + 1) n) : cwAll a (n + 1) := fun k h1 h2 => by
  rcases Nat.eq_or_lt_of_le h1 with e | e
  · rw [← e]; exact h
  · exact t k e (by omega)
set_option maxRecDepth 100000 in
theorem cw_all : cwAll 1 143 := cwAll_s cw1 (cwAll_s cw2 (cwAll_s cw3 (cwAll_s cw4 (cwAll_s cw5 (cwAll_s cw6 (cwAll_s cw7 (cwAll_s cw8 (cwAll_s cw9 (cwAll_s cw10 (cwAll_s cw11 (cwAll_s cw12 (cwAll_s cw13 (cwAll_s cw14 (cwAll_s cw15 (cwAll_s cw16 (cwAll_s cw17 (cwAll_s cw18 (cwAll_s cw19 (cwAll_s cw20 (cwAll_s cw21 (cwAll_s cw22 (cwAll_s cw23 (cwAll_s cw24 (cwAll_s cw25 (cwAll_s cw26 (cwAll_s cw27 (cwAll_s cw28 (cwAll_s cw29 (cwAll_s cw30 (cwAll_s cw31 (cwAll_s cw32 (cwAll_s cw33 (cwAll_s cw34 (cwAll_s cw35 (cwAll_s cw36 (cwAll_s cw37 (cwAll_s cw38 (cwAll_s cw39 (cwAll_s cw40 (cwAll_s cw41 (cwAll_s cw42 (cwAll_s cw43 (cwAll_s cw44 (cwAll_s cw45 (cwAll_s cw46 (cwAll_s cw47 (cwAll_s cw48 (cwAll_s cw49 (cwAll_s cw50 (cwAll_s cw51 (cwAll_s cw52 (cwAll_s cw53 (cwAll_s cw54 (cwAll_s cw55 (cwAll_s cw56 (cwAll_s cw57 (cwAll_s cw58 (cwAll_s cw59 (cwAll_s cw60 (cwAll_s cw61 (cwAll_s cw62 (cwAll_s cw63 (cwAll_s cw64 (cwAll_s cw65 (cwAll_s cw66 (cwAll_s cw67 (cwAll_s cw68 (cwAll_s cw69 (cwAll_s cw70 (cwAll_s cw71 (cwAll_s cw72 (cwAll_s cw73 (cwAll_s cw74 (cwAll_s cw75 (cwAll_s cw76 (cwAll_s cw77 (cwAll_s cw78 (cwAll_s cw79 (cwAll_s cw80 (cwAll_s cw81 (cwAll_s cw82 (cwAll_s cw83 (cwAll_s cw84 (cwAll_s cw85 (cwAll_s cw86 (cwAll_s cw87 (cwAll_s cw88 (cwAll_s cw89 (cwAll_s cw90 (cwAll_s cw91 (cwAll_s cw92 (cwAll_s cw93 (cwAll_s cw94 (cwAll_s cw95 (cwAll_s cw96 (cwAll_s cw97 (cwAll_s cw98 (cwAll_s cw99 (cwAll_s cw100 (cwAll_s cw101 (cwAll_s cw102 (cwAll_s cw103 (cwAll_s cw104 (cwAll_s cw105 (cwAll_s cw106 (cwAll_s cw107 (cwAll_s cw108 (cwAll_s cw109 (cwAll_s cw110 (cwAll_s cw111 (cwAll_s cw112 (cwAll_s cw113 (cwAll_s cw114 (cwAll_s cw115 (cwAll_s cw116 (cwAll_s cw117 (cwAll_s cw118 (cwAll_s cw119 (cwAll_s cw120 (cwAll_s cw121 (cwAll_s cw122 (cwAll_s cw123 (cwAll_s cw124 (cwAll_s cw125 (cwAll_s cw126 (cwAll_s cw127 (cwAll_s cw128 (cwAll_s cw129 (cwAll_s cw130 (cwAll_s cw131 (cwAll_s cw132 (cwAll_s cw133 (cwAll_s cw134 (cwAll_s cw135 (cwAll_s cw136 (cwAll_s cw137 (cwAll_s cw138 (cwAll_s cw139 (cwAll_s cw140 (cwAll_s cw141 (cwAll_s cw142 (cwAll_s cw143 (cwAll_0 144)))))))))))))))))))))))))))))))))))))))))))))))))))))))))))))))))))))))))))))))))))))))))))))))))))))))))))))))))))))))))))))))))))))))))))))))
