theorem cw73 : Jvm.Cond.code (mm 73).1 (mm 73).2.1 (mm 73).2.2.1 (mm 73).2.2.2.1 ∈ gtbl := List.mem_filter.mpr ⟨List.mem_of_getElem? (i := 965) (by decide +kernel), by decide +kernel⟩
theorem cw74 : Jvm.Cond.code (mm 74).1 (mm 74).2.1 (mm 74).2.2.1 (mm 74).2.2.2.1 ∈ gtbl := List.mem_filter.mpr ⟨List.mem_of_getElem? (i := 961) (by decide +kernel), by decide +kernel⟩
theorem cw75 : Jvm.Cond.code (mm 75).1 (mm 75).2.1 (mm 75).2.2.1 (mm 75).2.2.2.1 ∈ gtbl := List.mem_filter.mpr ⟨List.mem_of_getElem? (i := 969) (by decide +kernel), by decide +kernel⟩
theorem cw76 : Jvm.Cond.code (mm 76).1 (mm 76).2.1 (mm 76).2.2.1 (mm 76).2.2.2.1 ∈ gtbl := List.mem_filter.mpr ⟨List.mem_of_getElem? (i := 973) (by decide +kernel), by decide +kernel⟩
theorem cw77 : Jvm.Cond.code (mm 77).1 (mm 77).2.1 (mm 77).2.2.1 (mm 77).2.2.2.1 ∈ gtbl := List.mem_filter.mpr ⟨List.mem_of_getElem? (i := 979) (by decide +kernel), by decide +kernel⟩
theorem cw78 : Jvm.Cond.code (mm 78).1 (mm 78).2.1 (mm 78).2.2.1 (mm 78).2.2.2.1 ∈ gtbl := List.mem_filter.mpr ⟨List.mem_of_getElem? (i := 991) (by decide +kernel), by decide +kernel⟩
theorem cw79 : Jvm.Cond.code (mm 79).1 (mm 79).2.1 (mm 79).2.2.1 (mm 79).2.2.2.1 ∈ gtbl := List.mem_filter.mpr ⟨List.mem_of_getElem? (i := 987) (by decide +kernel), by decide +kernel⟩
theorem cw80 : Jvm.Cond.code (mm 80).1 (mm 80).2.1 (mm 80).2.2.1 (mm 80).2.2.2.1 ∈ gtbl := List.mem_filter.mpr ⟨List.mem_of_getElem? (i := 995) (by decide +kernel), by decide +kernel⟩
theorem cw81 : Jvm.Cond.code (mm 81).1 (mm 81).2.1 (mm 81).2.2.1 (mm 81).2.2.2.1 ∈ gtbl := List.mem_filter.mpr ⟨List.mem_of_getElem? (i := 1000) (by decide +kernel), by decide +kernel⟩
theorem cw82 : Jvm.Cond.code (mm 82).1 (mm 82).2.1 (mm 82).2.2.1 (mm 82).2.2.2.1 ∈ gtbl := List.mem_filter.mpr ⟨List.mem_of_getElem? (i := 1004) (by decide +kernel), by decide +kernel⟩
theorem cw83 : Jvm.Cond.code (mm 83).1 (mm 83).2.1 (mm 83).2.2.1 (mm 83).2.2.2.1 ∈ gtbl := List.mem_filter.mpr ⟨List.mem_of_getElem? (i := 1008) (by decide +kernel), by decide +kernel⟩
theorem cw84 : Jvm.Cond.code (mm 84).1 (mm 84).2.1 (mm 84).2.2.1 (mm 84).2.2.2.1 ∈ gtbl := List.mem_filter.mpr ⟨List.mem_of_getElem? (i := 1012) (by decide +kernel), by decide +kernel⟩
theorem cw85 : Jvm.Cond.code (mm 85).1 (mm 85).2.1 (mm 85).2.2.1 (mm 85).2.2.2.1 ∈ gtbl := List.mem_filter.mpr ⟨List.mem_of_getElem? (i := 224) (by decide +kernel), by decide +kernel⟩
theorem cw86 : Jvm.Cond.code (mm 86).1 (mm 86).2.1 (mm 86).2.2.1 (mm 86).2.2.2.1 ∈ gtbl := List.mem_filter.mpr ⟨List.mem_of_getElem? (i := 433) (by decide +kernel), by decide +kernel⟩
theorem cw87 : Jvm.Cond.code (mm 87).1 (mm 87).2.1 (mm 87).2.2.1 (mm 87).2.2.2.1 ∈ gtbl := List.mem_filter.mpr ⟨List.mem_of_getElem? (i := 538) (by decide +kernel), by decide +kernel⟩
theorem cw88 : Jvm.Cond.code (mm 88).1 (mm 88).2.1 (mm 88).2.2.1 (mm 88).2.2.2.1 ∈ gtbl := List.mem_filter.mpr ⟨List.mem_of_getElem? (i := 542) (by decide +kernel), by decide +kernel⟩
theorem cw89 : Jvm.Cond.code (mm 89).1 (mm 89).2.1 (mm 89).2.2.1 (mm 89).2.2.2.1 ∈ gtbl := List.mem_filter.mpr ⟨List.mem_of_getElem? (i := 557) (by decide +kernel), by decide +kernel⟩
theorem cw90 : Jvm.Cond.code (mm 90).1 (mm 90).2.1 (mm 90).2.2.1 (mm 90).2.2.2.1 ∈ gtbl := List.mem_filter.mpr ⟨List.mem_of_getElem? (i := 562) (by decide +kernel), by decide +kernel⟩
theorem cw91 : Jvm.Cond.code (mm 91).1 (mm 91).2.1 (mm 91).2.2.1 (mm 91).2.2.2.1 ∈ gtbl := List.mem_filter.mpr ⟨List.mem_of_getElem? (i := 566) (by decide +kernel), by decide +kernel⟩
theorem cw92 : Jvm.Cond.code (mm 92).1 (mm 92).2.1 (mm 92).2.2.1 (mm 92).2.2.2.1 ∈ gtbl := List.mem_filter.mpr ⟨List.mem_of_getElem? (i := 576) (by decide +kernel), by decide +kernel⟩
theorem cw93 : Jvm.Cond.code (mm 93).1 (mm 93).2.1 (mm 93).2.2.1 (mm 93).2.2.2.1 ∈ gtbl := List.mem_filter.mpr ⟨List.mem_of_getElem? (i := 546) (by decide +kernel), by decide +kernel⟩
theorem cw94 : Jvm.Cond.code (mm 94).1 (mm 94).2.1 (mm 94).2.2.1 (mm 94).2.2.2.1 ∈ gtbl := List.mem_filter.mpr ⟨List.mem_of_getElem? (i := 551) (by decide +kernel), by decide +kernel⟩
theorem cw95 : Jvm.Cond.code (mm 95).1 (mm 95).2.1 (mm 95).2.2.1 (mm 95).2.2.2.1 ∈ gtbl := List.mem_filter.mpr ⟨List.mem_of_getElem? (i := 290) (by decide +kernel), by decide +kernel⟩
theorem cw96 : Jvm.Cond.code (mm 96).1 (mm 96).2.1 (mm 96).2.2.1 (mm 96).2.2.2.1 ∈ gtbl := List.mem_filter.mpr ⟨List.mem_of_getElem? (i := 617) (by decide +kernel), by decide +kernel⟩
theorem cw97 : Jvm.Cond.code (mm 97).1 (mm 97).2.1 (mm 97).2.2.1 (mm 97).2.2.2.1 ∈ gtbl := List.mem_filter.mpr ⟨List.mem_of_getElem? (i := 625) (by decide +kernel), by decide +kernel⟩
theorem cw98 : Jvm.Cond.code (mm 98).1 (mm 98).2.1 (mm 98).2.2.1 (mm 98).2.2.2.1 ∈ gtbl := List.mem_filter.mpr ⟨List.mem_of_getElem? (i := 635) (by decide +kernel), by decide +kernel⟩
theorem cw99 : Jvm.Cond.code (mm 99).1 (mm 99).2.1 (mm 99).2.2.1 (mm 99).2.2.2.1 ∈ gtbl := List.mem_filter.mpr ⟨List.mem_of_getElem? (i := 257) (by decide +kernel), by decide +kernel⟩
theorem cw100 : Jvm.Cond.code (mm 100).1 (mm 100).2.1 (mm 100).2.2.1 (mm 100).2.2.2.1 ∈ gtbl := List.mem_filter.mpr ⟨List.mem_of_getElem? (i := 429) (by decide +kernel), by decide +kernel⟩
theorem cw101 : Jvm.Cond.code (mm 101).1 (mm 101).2.1 (mm 101).2.2.1 (mm 101).2.2.2.1 ∈ gtbl := List.mem_filter.mpr ⟨List.mem_of_getElem? (i := 658) (by decide +kernel), by decide +kernel⟩
theorem cw102 : Jvm.Cond.code (mm 102).1 (mm 102).2.1 (mm 102).2.2.1 (mm 102).2.2.2.1 ∈ gtbl := List.mem_filter.mpr ⟨List.mem_of_getElem? (i := 662) (by decide +kernel), by decide +kernel⟩
theorem cw103 : Jvm.Cond.code (mm 103).1 (mm 103).2.1 (mm 103).2.2.1 (mm 103).2.2.2.1 ∈ gtbl := List.mem_filter.mpr ⟨List.mem_of_getElem? (i := 674) (by decide +kernel), by decide +kernel⟩
theorem cw104 : Jvm.Cond.code (mm 104).1 (mm 104).2.1 (mm 104).2.2.1 (mm 104).2.2.2.1 ∈ gtbl := List.mem_filter.mpr ⟨List.mem_of_getElem? (i := 684) (by decide +kernel), by decide +kernel⟩
theorem cw105 : Jvm.Cond.code (mm 105).1 (mm 105).2.1 (mm 105).2.2.1 (mm 105).2.2.2.1 ∈ gtbl := List.mem_filter.mpr ⟨List.mem_of_getElem? (i := 693) (by decide +kernel), by decide +kernel⟩
theorem cw106 : Jvm.Cond.code (mm 106).1 (mm 106).2.1 (mm 106).2.2.1 (mm 106).2.2.2.1 ∈ gtbl := List.mem_filter.mpr ⟨List.mem_of_getElem? (i := 95) (by decide +kernel), by decide +kernel⟩
theorem cw107 : Jvm.Cond.code (mm 107).1 (mm 107).2.1 (mm 107).2.2.1 (mm 107).2.2.2.1 ∈ gtbl := List.mem_filter.mpr ⟨List.mem_of_getElem? (i := 311) (by decide +kernel), by decide +kernel⟩
theorem cw108 : Jvm.Cond.code (mm 108).1 (mm 108).2.1 (mm 108).2.2.1 (mm 108).2.2.2.1 ∈ gtbl := List.mem_filter.mpr ⟨List.mem_of_getElem? (i := 422) (by decide +kernel), by decide +kernel⟩
theorem cw109 : Jvm.Cond.code (mm 109).1 (mm 109).2.1 (mm 109).2.2.1 (mm 109).2.2.2.1 ∈ gtbl := List.mem_filter.mpr ⟨List.mem_of_getElem? (i := 329) (by decide +kernel), by decide +kernel⟩
theorem cw110 : Jvm.Cond.code (mm 110).1 (mm 110).2.1 (mm 110).2.2.1 (mm 110).2.2.2.1 ∈ gtbl := List.mem_filter.mpr ⟨List.mem_of_getElem? (i := 446) (by decide +kernel), by decide +kernel⟩
theorem cw111 : Jvm.Cond.code (mm 111).1 (mm 111).2.1 (mm 111).2.2.1 (mm 111).2.2.2.1 ∈ gtbl := List.mem_filter.mpr ⟨List.mem_of_getElem? (i := 318) (by decide +kernel), by decide +kernel⟩
theorem cw112 : Jvm.Cond.code (mm 112).1 (mm 112).2.1 (mm 112).2.2.1 (mm 112).2.2.2.1 ∈ gtbl := List.mem_filter.mpr ⟨List.mem_of_getElem? (i := 325) (by decide +kernel), by decide +kernel⟩
theorem cw113 : Jvm.Cond.code (mm 113).1 (mm 113).2.1 (mm 113).2.2.1 (mm 113).2.2.2.1 ∈ gtbl := List.mem_filter.mpr ⟨List.mem_of_getElem? (i := 399) (by decide +kernel), by decide +kernel⟩
theorem cw114 : Jvm.Cond.code (mm 114).1 (mm 114).2.1 (mm 114).2.2.1 (mm 114).2.2.2.1 ∈ gtbl := List.mem_filter.mpr ⟨List.mem_of_getElem? (i := 406) (by decide +kernel), by decide +kernel⟩
theorem cw115 : Jvm.Cond.code (mm 115).1 (mm 115).2.1 (mm 115).2.2.1 (mm 115).2.2.2.1 ∈ gtbl := List.mem_filter.mpr ⟨List.mem_of_getElem? (i := 410) (by decide +kernel), by decide +kernel⟩
theorem cw116 : Jvm.Cond.code (mm 116).1 (mm 116).2.1 (mm 116).2.2.1 (mm 116).2.2.2.1 ∈ gtbl := List.mem_filter.mpr ⟨List.mem_of_getElem? (i := 414) (by decide +kernel), by decide +kernel⟩
theorem cw117 : Jvm.Cond.code (mm 117).1 (mm 117).2.1 (mm 117).2.2.1 (mm 117).2.2.2.1 ∈ gtbl := List.mem_filter.mpr ⟨List.mem_of_getElem? (i := 459) (by decide +kernel), by decide +kernel⟩
theorem cw118 : Jvm.Cond.code (mm 118).1 (mm 118).2.1 (mm 118).2.2.1 (mm 118).2.2.2.1 ∈ gtbl := List.mem_filter.mpr ⟨List.mem_of_getElem? (i := 455) (by decide +kernel), by decide +kernel⟩
theorem cw119 : Jvm.Cond.code (mm 119).1 (mm 119).2.1 (mm 119).2.2.1 (mm 119).2.2.2.1 ∈ gtbl := List.mem_filter.mpr ⟨List.mem_of_getElem? (i := 450) (by decide +kernel), by decide +kernel⟩
theorem cw120 : Jvm.Cond.code (mm 120).1 (mm 120).2.1 (mm 120).2.2.1 (mm 120).2.2.2.1 ∈ gtbl := List.mem_filter.mpr ⟨List.mem_of_getElem? (i := 604) (by decide +kernel), by decide +kernel⟩
theorem cw121 : Jvm.Cond.code (mm 121).1 (mm 121).2.1 (mm 121).2.2.1 (mm 121).2.2.2.1 ∈ gtbl := List.mem_filter.mpr ⟨List.mem_of_getElem? (i := 499) (by decide +kernel), by decide +kernel⟩
theorem cw122 : Jvm.Cond.code (mm 122).1 (mm 122).2.1 (mm 122).2.2.1 (mm 122).2.2.2.1 ∈ gtbl := List.mem_filter.mpr ⟨List.mem_of_getElem? (i := 164) (by decide +kernel), by decide +kernel⟩
theorem cw123 : Jvm.Cond.code (mm 123).1 (mm 123).2.1 (mm 123).2.2.1 (mm 123).2.2.2.1 ∈ gtbl := List.mem_filter.mpr ⟨List.mem_of_getElem? (i := 375) (by decide +kernel), by decide +kernel⟩
theorem cw124 : Jvm.Cond.code (mm 124).1 (mm 124).2.1 (mm 124).2.2.1 (mm 124).2.2.2.1 ∈ gtbl := List.mem_filter.mpr ⟨List.mem_of_getElem? (i := 388) (by decide +kernel), by decide +kernel⟩
theorem cw125 : Jvm.Cond.code (mm 125).1 (mm 125).2.1 (mm 125).2.2.1 (mm 125).2.2.2.1 ∈ gtbl := List.mem_filter.mpr ⟨List.mem_of_getElem? (i := 384) (by decide +kernel), by decide +kernel⟩
theorem cw126 : Jvm.Cond.code (mm 126).1 (mm 126).2.1 (mm 126).2.2.1 (mm 126).2.2.2.1 ∈ gtbl := List.mem_filter.mpr ⟨List.mem_of_getElem? (i := 380) (by decide +kernel), by decide +kernel⟩
theorem cw127 : Jvm.Cond.code (mm 127).1 (mm 127).2.1 (mm 127).2.2.1 (mm 127).2.2.2.1 ∈ gtbl := List.mem_filter.mpr ⟨List.mem_of_getElem? (i := 393) (by decide +kernel), by decide +kernel⟩
theorem cw128 : Jvm.Cond.code (mm 128).1 (mm 128).2.1 (mm 128).2.2.1 (mm 128).2.2.2.1 ∈ gtbl := List.mem_filter.mpr ⟨List.mem_of_getElem? (i := 186) (by decide +kernel), by decide +kernel⟩
theorem cw129 : Jvm.Cond.code (mm 129).1 (mm 129).2.1 (mm 129).2.2.1 (mm 129).2.2.2.1 ∈ gtbl := List.mem_filter.mpr ⟨List.mem_of_getElem? (i := 486) (by decide +kernel), by decide +kernel⟩
theorem cw130 : Jvm.Cond.code (mm 130).1 (mm 130).2.1 (mm 130).2.2.1 (mm 130).2.2.2.1 ∈ gtbl := List.mem_filter.mpr ⟨List.mem_of_getElem? (i := 482) (by decide +kernel), by decide +kernel⟩
theorem cw131 : Jvm.Cond.code (mm 131).1 (mm 131).2.1 (mm 131).2.2.1 (mm 131).2.2.2.1 ∈ gtbl := List.mem_filter.mpr ⟨List.mem_of_getElem? (i := 584) (by decide +kernel), by decide +kernel⟩
theorem cw132 : Jvm.Cond.code (mm 132).1 (mm 132).2.1 (mm 132).2.2.1 (mm 132).2.2.2.1 ∈ gtbl := List.mem_filter.mpr ⟨List.mem_of_getElem? (i := 495) (by decide +kernel), by decide +kernel⟩
theorem cw133 : Jvm.Cond.code (mm 133).1 (mm 133).2.1 (mm 133).2.2.1 (mm 133).2.2.2.1 ∈ gtbl := List.mem_filter.mpr ⟨List.mem_of_getElem? (i := 192) (by decide +kernel), by decide +kernel⟩
theorem cw134 : Jvm.Cond.code (mm 134).1 (mm 134).2.1 (mm 134).2.2.1 (mm 134).2.2.2.1 ∈ gtbl := List.mem_filter.mpr ⟨List.mem_of_getElem? (i := 490) (by decide +kernel), by decide +kernel⟩
theorem cw135 : Jvm.Cond.code (mm 135).1 (mm 135).2.1 (mm 135).2.2.1 (mm 135).2.2.2.1 ∈ gtbl := List.mem_filter.mpr ⟨List.mem_of_getElem? (i := 570) (by decide +kernel), by decide +kernel⟩
theorem cw136 : Jvm.Cond.code (mm 136).1 (mm 136).2.1 (mm 136).2.2.1 (mm 136).2.2.2.1 ∈ gtbl := List.mem_filter.mpr ⟨List.mem_of_getElem? (i := 506) (by decide +kernel), by decide +kernel⟩
theorem cw137 : Jvm.Cond.code (mm 137).1 (mm 137).2.1 (mm 137).2.2.1 (mm 137).2.2.2.1 ∈ gtbl := List.mem_filter.mpr ⟨List.mem_of_getElem? (i := 518) (by decide +kernel), by decide +kernel⟩
theorem cw138 : Jvm.Cond.code (mm 138).1 (mm 138).2.1 (mm 138).2.2.1 (mm 138).2.2.2.1 ∈ gtbl := List.mem_filter.mpr ⟨List.mem_of_getElem? (i := 522) (by decide +kernel), by decide +kernel⟩
theorem cw139 : Jvm.Cond.code (mm 139).1 (mm 139).2.1 (mm 139).2.2.1 (mm 139).2.2.2.1 ∈ gtbl := List.mem_filter.mpr ⟨List.mem_of_getElem? (i := 514) (by decide +kernel), by decide +kernel⟩
theorem cw140 : Jvm.Cond.code (mm 140).1 (mm 140).2.1 (mm 140).2.2.1 (mm 140).2.2.2.1 ∈ gtbl := List.mem_filter.mpr ⟨List.mem_of_getElem? (i := 650) (by decide +kernel), by decide +kernel⟩
theorem cw141 : Jvm.Cond.code (mm 141).1 (mm 141).2.1 (mm 141).2.2.1 (mm 141).2.2.2.1 ∈ gtbl := List.mem_filter.mpr ⟨List.mem_of_getElem? (i := 314) (by decide +kernel), by decide +kernel⟩
theorem cw142 : Jvm.Cond.code (mm 142).1 (mm 142).2.1 (mm 142).2.2.1 (mm 142).2.2.2.1 ∈ gtbl := List.mem_filter.mpr ⟨List.mem_of_getElem? (i := 620) (by decide +kernel), by decide +kernel⟩
def cwP (k : Nat) : Prop := Jvm.Cond.code (mm k).1 (mm k).2.1 (mm k).2.2.1 (mm k).2.2.2.1 ∈ gtbl
def cwAll (a n : Nat) : Prop := ∀ k, a ≤ k → k < a + n → cwP k
theorem cwAll_0 (a : Nat) : cwAll a 0 := fun k h1 h2 => by omega
theorem cwAll_s {a n : Nat} (h : cwP a) (t : cwAll (a + 1) n) : cwAll a (n + 1) := fun k h1 h2 => by
  rcases Nat.eq_or_lt_of_le h1 with e | e
  · rw [← e]; exact h
  · exact t k e (by omega)
set_option maxRecDepth 100000 in
theorem cw_all : cwAll 1 142 := cwAll_s cw1 (cwAll_s cw2 (cwAll_s cw3 (cwAll_s cw4 (cwAll_s cw5 (cwAll_s cw6 (cwAll_s cw7 (cwAll_s cw8 (cwAll_s cw9 (cwAll_s cw10 (cwAll_s cw11 (cwAll_s cw12 (cwAll_s cw13 (cwAll_s cw14 (cwAll_s cw15 (cwAll_s cw16 (cwAll_s cw17 (cwAll_s cw18 (cwAll_s cw19 (cwAll_s cw20 (cwAll_s cw21 (cwAll_s cw22 (cwAll_s cw23 (cwAll_s cw24 (cwAll_s cw25 (cwAll_s cw26 (cwAll_s cw27 (cwAll_s cw28 (cwAll_s cw29 (cwAll_s cw30 (cwAll_s cw31 (cwAll_s cw32 (cwAll_s cw33 (cwAll_s cw34 (cwAll_s cw35 (cwAll_s cw36 (cwAll_s cw37 (cwAll_s cw38 (cwAll_s cw39 (cwAll_s cw40 (cwAll_s cw41 (cwAll_s cw42 (cwAll_s cw43 (cwAll_s cw44 (cwAll_s cw45 (cwAll_s cw46 (cwAll_s cw47 (cwAll_s cw48 (cwAll_s cw49 (cwAll_s cw50 (cwAll_s cw51 (cwAll_s cw52 (cwAll_s cw53 (cwAll_s cw54 (cwAll_s cw55 (cwAll_s cw56 (cwAll_s cw57 (cwAll_s cw58 (cwAll_s cw59 (cwAll_s cw60 (cwAll_s cw61 (cwAll_s cw62 (cwAll_s cw63 (cwAll_s cw64 (cwAll_s cw65 (cwAll_s cw66 (cwAll_s cw67 (cwAll_s cw68 (cwAll_s cw69 (cwAll_s cw70 (cwAll_s cw71 (cwAll_s cw72 (cwAll_s cw73 (cwAll_s cw74 (cwAll_s cw75 (cwAll_s cw76 (cwAll_s cw77 (cwAll_s cw78 (cwAll_s cw79 (cwAll_s cw80 (cwAll_s cw81 (cwAll_s cw82 (cwAll_s cw83 (cwAll_s cw84 (cwAll_s cw85 (cwAll_s cw86 (cwAll_s cw87 (cwAll_s cw88 (cwAll_s cw89 (cwAll_s cw90 (cwAll_s cw91 (cwAll_s cw92 (cwAll_s cw93 (cwAll_s cw94 (cwAll_s cw95 (cwAll_s cw96 (cwAll_s cw97 (cwAll_s cw98 (cwAll_s cw99 (cwAll_s cw100 (cwAll_s cw101 (cwAll_s cw102 (cwAll_s cw103 (cwAll_s cw104 (cwAll_s cw105 (cwAll_s cw106 (cwAll_s cw107 (cwAll_s cw108 (cwAll_s cw109 (cwAll_s cw110 (cwAll_s cw111 (cwAll_s cw112 (cwAll_s cw113 (cwAll_s cw114 (cwAll_s cw115 (cwAll_s cw116 (cwAll_s cw117 (cwAll_s cw118 (cwAll_s cw119 (cwAll_s cw120 (cwAll_s cw121 (cwAll_s cw122 (cwAll_s cw123 (cwAll_s cw124 (cwAll_s cw125 (cwAll_s cw126 (cwAll_s cw127 (cwAll_s cw128 (cwAll_s cw129 (cwAll_s cw130 (cwAll_s cw131 (cwAll_s cw132 (cwAll_s cw133 (cwAll_s cw134 (cwAll_s cw135 (cwAll_s cw136 (cwAll_s cw137 (cwAll_s cw138 (cwAll_s cw139 (cwAll_s cw140 (cwAll_s cw141 (cwAll_s cw142 (cwAll_0 143))))))))))))))))))))))))))))))))))))))))))))))))))))))))))))))))))))))))))))))))))))))))))))))))))))))))))))))))))))))))))))))))))))))))))))))
