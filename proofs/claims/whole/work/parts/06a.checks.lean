/-! each instruction is as the tables and the bytes say. Written by program (wip/gen/g06.py). -/
set_option maxRecDepth 100000 in
theorem ok0_0 : (cd0_0.all fun q => okI 0 q.1 q.2) = true := by decide +kernel
set_option maxRecDepth 100000 in
theorem ok0_1 : (cd0_1.all fun q => okI 0 q.1 q.2) = true := by decide +kernel
set_option maxRecDepth 100000 in
theorem ok0_2 : (cd0_2.all fun q => okI 0 q.1 q.2) = true := by decide +kernel
set_option maxRecDepth 100000 in
theorem ok0_3 : (cd0_3.all fun q => okI 0 q.1 q.2) = true := by decide +kernel
set_option maxRecDepth 100000 in
theorem ok0_4 : (cd0_4.all fun q => okI 0 q.1 q.2) = true := by decide +kernel
set_option maxRecDepth 100000 in
theorem ok0_5 : (cd0_5.all fun q => okI 0 q.1 q.2) = true := by decide +kernel
set_option maxRecDepth 100000 in
theorem ok0_6 : (cd0_6.all fun q => okI 0 q.1 q.2) = true := by decide +kernel
set_option maxRecDepth 100000 in
theorem ok0_7 : (cd0_7.all fun q => okI 0 q.1 q.2) = true := by decide +kernel
set_option maxRecDepth 100000 in
theorem ok0_8 : (cd0_8.all fun q => okI 0 q.1 q.2) = true := by decide +kernel
set_option maxRecDepth 100000 in
theorem ok0_9 : (cd0_9.all fun q => okI 0 q.1 q.2) = true := by decide +kernel
set_option maxRecDepth 100000 in
theorem ok0_10 : (cd0_10.all fun q => okI 0 q.1 q.2) = true := by decide +kernel
set_option maxRecDepth 100000 in
theorem ok0_11 : (cd0_11.all fun q => okI 0 q.1 q.2) = true := by decide +kernel
set_option maxRecDepth 100000 in
theorem ok0_12 : (cd0_12.all fun q => okI 0 q.1 q.2) = true := by decide +kernel
set_option maxRecDepth 100000 in
theorem ok0_13 : (cd0_13.all fun q => okI 0 q.1 q.2) = true := by decide +kernel
set_option maxRecDepth 100000 in
theorem ok0_14 : (cd0_14.all fun q => okI 0 q.1 q.2) = true := by decide +kernel
theorem ok0 : (cd0.all fun q => okI 0 q.1 q.2) = true := by
  rw [cd0, List.all_append, List.all_append, List.all_append, List.all_append, List.all_append, List.all_append, List.all_append, List.all_append, List.all_append, List.all_append, List.all_append, List.all_append, List.all_append, List.all_append, ok0_0, ok0_1, ok0_2, ok0_3, ok0_4, ok0_5, ok0_6, ok0_7, ok0_8, ok0_9, ok0_10, ok0_11, ok0_12, ok0_13, ok0_14]
  try rfl
set_option maxRecDepth 100000 in
theorem ok1 : (cd1.all fun q => okI 1 q.1 q.2) = true := by decide +kernel
set_option maxRecDepth 100000 in
theorem ok2 : (cd2.all fun q => okI 2 q.1 q.2) = true := by decide +kernel
set_option maxRecDepth 100000 in
theorem ok3 : (cd3.all fun q => okI 3 q.1 q.2) = true := by decide +kernel
set_option maxRecDepth 100000 in
theorem ok4 : (cd4.all fun q => okI 4 q.1 q.2) = true := by decide +kernel
set_option maxRecDepth 100000 in
theorem ok5 : (cd5.all fun q => okI 5 q.1 q.2) = true := by decide +kernel
set_option maxRecDepth 100000 in
theorem ok6 : (cd6.all fun q => okI 6 q.1 q.2) = true := by decide +kernel
set_option maxRecDepth 100000 in
theorem ok7 : (cd7.all fun q => okI 7 q.1 q.2) = true := by decide +kernel
set_option maxRecDepth 100000 in
theorem ok8 : (cd8.all fun q => okI 8 q.1 q.2) = true := by decide +kernel
set_option maxRecDepth 100000 in
theorem ok9 : (cd9.all fun q => okI 9 q.1 q.2) = true := by decide +kernel
set_option maxRecDepth 100000 in
theorem ok10 : (cd10.all fun q => okI 10 q.1 q.2) = true := by decide +kernel
set_option maxRecDepth 100000 in
theorem ok11 : (cd11.all fun q => okI 11 q.1 q.2) = true := by decide +kernel
set_option maxRecDepth 100000 in
theorem ok12 : (cd12.all fun q => okI 12 q.1 q.2) = true := by decide +kernel
set_option maxRecDepth 100000 in
theorem ok13 : (cd13.all fun q => okI 13 q.1 q.2) = true := by decide +kernel
set_option maxRecDepth 100000 in
theorem ok14 : (cd14.all fun q => okI 14 q.1 q.2) = true := by decide +kernel
set_option maxRecDepth 100000 in
theorem ok15 : (cd15.all fun q => okI 15 q.1 q.2) = true := by decide +kernel
set_option maxRecDepth 100000 in
theorem ok16 : (cd16.all fun q => okI 16 q.1 q.2) = true := by decide +kernel
set_option maxRecDepth 100000 in
theorem ok17 : (cd17.all fun q => okI 17 q.1 q.2) = true := by decide +kernel
set_option maxRecDepth 100000 in
theorem ok18 : (cd18.all fun q => okI 18 q.1 q.2) = true := by decide +kernel
set_option maxRecDepth 100000 in
theorem ok19 : (cd19.all fun q => okI 19 q.1 q.2) = true := by decide +kernel
set_option maxRecDepth 100000 in
theorem ok20 : (cd20.all fun q => okI 20 q.1 q.2) = true := by decide +kernel
set_option maxRecDepth 100000 in
theorem ok21 : (cd21.all fun q => okI 21 q.1 q.2) = true := by decide +kernel
set_option maxRecDepth 100000 in
theorem ok22 : (cd22.all fun q => okI 22 q.1 q.2) = true := by decide +kernel
set_option maxRecDepth 100000 in
theorem ok23 : (cd23.all fun q => okI 23 q.1 q.2) = true := by decide +kernel
set_option maxRecDepth 100000 in
theorem ok24 : (cd24.all fun q => okI 24 q.1 q.2) = true := by decide +kernel
set_option maxRecDepth 100000 in
theorem ok25 : (cd25.all fun q => okI 25 q.1 q.2) = true := by decide +kernel
set_option maxRecDepth 100000 in
theorem ok26 : (cd26.all fun q => okI 26 q.1 q.2) = true := by decide +kernel
set_option maxRecDepth 100000 in
theorem ok27 : (cd27.all fun q => okI 27 q.1 q.2) = true := by decide +kernel
set_option maxRecDepth 100000 in
theorem ok28 : (cd28.all fun q => okI 28 q.1 q.2) = true := by decide +kernel
set_option maxRecDepth 100000 in
theorem ok29 : (cd29.all fun q => okI 29 q.1 q.2) = true := by decide +kernel
set_option maxRecDepth 100000 in
theorem ok30 : (cd30.all fun q => okI 30 q.1 q.2) = true := by decide +kernel
set_option maxRecDepth 100000 in
theorem ok31 : (cd31.all fun q => okI 31 q.1 q.2) = true := by decide +kernel
set_option maxRecDepth 100000 in
theorem ok32 : (cd32.all fun q => okI 32 q.1 q.2) = true := by decide +kernel
set_option maxRecDepth 100000 in
theorem ok33_0 : (cd33_0.all fun q => okI 33 q.1 q.2) = true := by decide +kernel
set_option maxRecDepth 100000 in
theorem ok33_1 : (cd33_1.all fun q => okI 33 q.1 q.2) = true := by decide +kernel
set_option maxRecDepth 100000 in
theorem ok33_2 : (cd33_2.all fun q => okI 33 q.1 q.2) = true := by decide +kernel
set_option maxRecDepth 100000 in
theorem ok33_3 : (cd33_3.all fun q => okI 33 q.1 q.2) = true := by decide +kernel
theorem ok33 : (cd33.all fun q => okI 33 q.1 q.2) = true := by
  rw [cd33, List.all_append, List.all_append, List.all_append, ok33_0, ok33_1, ok33_2, ok33_3]
  try rfl
set_option maxRecDepth 100000 in
theorem ok34 : (cd34.all fun q => okI 34 q.1 q.2) = true := by decide +kernel
set_option maxRecDepth 100000 in
theorem ok35 : (cd35.all fun q => okI 35 q.1 q.2) = true := by decide +kernel
set_option maxRecDepth 100000 in
theorem ok36 : (cd36.all fun q => okI 36 q.1 q.2) = true := by decide +kernel
set_option maxRecDepth 100000 in
theorem ok37 : (cd37.all fun q => okI 37 q.1 q.2) = true := by decide +kernel
set_option maxRecDepth 100000 in
theorem ok38 : (cd38.all fun q => okI 38 q.1 q.2) = true := by decide +kernel
set_option maxRecDepth 100000 in
theorem ok39 : (cd39.all fun q => okI 39 q.1 q.2) = true := by decide +kernel
set_option maxRecDepth 100000 in
theorem ok40 : (cd40.all fun q => okI 40 q.1 q.2) = true := by decide +kernel
set_option maxRecDepth 100000 in
theorem ok41_0 : (cd41_0.all fun q => okI 41 q.1 q.2) = true := by decide +kernel
set_option maxRecDepth 100000 in
theorem ok41_1 : (cd41_1.all fun q => okI 41 q.1 q.2) = true := by decide +kernel
set_option maxRecDepth 100000 in
theorem ok41_2 : (cd41_2.all fun q => okI 41 q.1 q.2) = true := by decide +kernel
set_option maxRecDepth 100000 in
theorem ok41_3 : (cd41_3.all fun q => okI 41 q.1 q.2) = true := by decide +kernel
set_option maxRecDepth 100000 in
theorem ok41_4 : (cd41_4.all fun q => okI 41 q.1 q.2) = true := by decide +kernel
set_option maxRecDepth 100000 in
theorem ok41_5 : (cd41_5.all fun q => okI 41 q.1 q.2) = true := by decide +kernel
set_option maxRecDepth 100000 in
theorem ok41_6 : (cd41_6.all fun q => okI 41 q.1 q.2) = true := by decide +kernel
set_option maxRecDepth 100000 in
theorem ok41_7 : (cd41_7.all fun q => okI 41 q.1 q.2) = true := by decide +kernel
set_option maxRecDepth 100000 in
theorem ok41_8 : (cd41_8.all fun q => okI 41 q.1 q.2) = true := by decide +kernel
theorem ok41 : (cd41.all fun q => okI 41 q.1 q.2) = true := by
  rw [cd41, List.all_append, List.all_append, List.all_append, List.all_append, List.all_append, List.all_append, List.all_append, List.all_append, ok41_0, ok41_1, ok41_2, ok41_3, ok41_4, ok41_5, ok41_6, ok41_7, ok41_8]
  try rfl
set_option maxRecDepth 100000 in
theorem ok42 : (cd42.all fun q => okI 42 q.1 q.2) = true := by decide +kernel
set_option maxRecDepth 100000 in
theorem ok43 : (cd43.all fun q => okI 43 q.1 q.2) = true := by decide +kernel
set_option maxRecDepth 100000 in
theorem ok44 : (cd44.all fun q => okI 44 q.1 q.2) = true := by decide +kernel
set_option maxRecDepth 100000 in
theorem ok45_0 : (cd45_0.all fun q => okI 45 q.1 q.2) = true := by decide +kernel
set_option maxRecDepth 100000 in
theorem ok45_1 : (cd45_1.all fun q => okI 45 q.1 q.2) = true := by decide +kernel
set_option maxRecDepth 100000 in
theorem ok45_2 : (cd45_2.all fun q => okI 45 q.1 q.2) = true := by decide +kernel
set_option maxRecDepth 100000 in
theorem ok45_3 : (cd45_3.all fun q => okI 45 q.1 q.2) = true := by decide +kernel
theorem ok45 : (cd45.all fun q => okI 45 q.1 q.2) = true := by
  rw [cd45, List.all_append, List.all_append, List.all_append, ok45_0, ok45_1, ok45_2, ok45_3]
  try rfl
set_option maxRecDepth 100000 in
theorem ok46 : (cd46.all fun q => okI 46 q.1 q.2) = true := by decide +kernel
set_option maxRecDepth 100000 in
theorem ok47 : (cd47.all fun q => okI 47 q.1 q.2) = true := by decide +kernel
set_option maxRecDepth 100000 in
theorem ok48 : (cd48.all fun q => okI 48 q.1 q.2) = true := by decide +kernel
set_option maxRecDepth 100000 in
theorem ok49 : (cd49.all fun q => okI 49 q.1 q.2) = true := by decide +kernel
set_option maxRecDepth 100000 in
theorem ok50 : (cd50.all fun q => okI 50 q.1 q.2) = true := by decide +kernel
set_option maxRecDepth 100000 in
theorem ok51 : (cd51.all fun q => okI 51 q.1 q.2) = true := by decide +kernel
set_option maxRecDepth 100000 in
theorem ok52 : (cd52.all fun q => okI 52 q.1 q.2) = true := by decide +kernel
set_option maxRecDepth 100000 in
theorem ok53 : (cd53.all fun q => okI 53 q.1 q.2) = true := by decide +kernel
set_option maxRecDepth 100000 in
theorem ok54 : (cd54.all fun q => okI 54 q.1 q.2) = true := by decide +kernel
set_option maxRecDepth 100000 in
theorem ok55 : (cd55.all fun q => okI 55 q.1 q.2) = true := by decide +kernel
set_option maxRecDepth 100000 in
theorem ok56 : (cd56.all fun q => okI 56 q.1 q.2) = true := by decide +kernel
set_option maxRecDepth 100000 in
theorem ok57 : (cd57.all fun q => okI 57 q.1 q.2) = true := by decide +kernel
set_option maxRecDepth 100000 in
theorem ok58 : (cd58.all fun q => okI 58 q.1 q.2) = true := by decide +kernel
set_option maxRecDepth 100000 in
theorem ok59 : (cd59.all fun q => okI 59 q.1 q.2) = true := by decide +kernel
set_option maxRecDepth 100000 in
theorem ok60 : (cd60.all fun q => okI 60 q.1 q.2) = true := by decide +kernel
set_option maxRecDepth 100000 in
theorem ok61 : (cd61.all fun q => okI 61 q.1 q.2) = true := by decide +kernel
set_option maxRecDepth 100000 in
theorem ok62 : (cd62.all fun q => okI 62 q.1 q.2) = true := by decide +kernel
set_option maxRecDepth 100000 in
theorem ok63 : (cd63.all fun q => okI 63 q.1 q.2) = true := by decide +kernel
set_option maxRecDepth 100000 in
theorem ok64 : (cd64.all fun q => okI 64 q.1 q.2) = true := by decide +kernel
set_option maxRecDepth 100000 in
theorem ok65_0 : (cd65_0.all fun q => okI 65 q.1 q.2) = true := by decide +kernel
set_option maxRecDepth 100000 in
theorem ok65_1 : (cd65_1.all fun q => okI 65 q.1 q.2) = true := by decide +kernel
