/-! ===== the words: one list for every method ===== -/
def wsA : List Cond := lw_tbl.filter goodWord
theorem wa_in {w : Cond} (h : w ∈ lw_tbl) (hg : goodWord w = true) : w ∈ wsA := List.mem_filter.mpr ⟨h, hg⟩
theorem wa_tbl {w : Cond} (h : w ∈ wsA) : w ∈ lw_tbl := (List.mem_filter.mp h).1
theorem wa_good {w : Cond} (h : w ∈ wsA) : goodWord w = true := (List.mem_filter.mp h).2
theorem mw1 : Cond.classLink RL 7 RX3 ∈ wsA := wa_in (List.mem_append_right _ (List.mem_append_left _ (List.mem_of_getElem? (i := 10) rfl))) rfl
theorem mw2 : Cond.instantiable RX3 7 ∈ wsA := wa_in (List.mem_append_right _ (List.mem_append_left _ (List.mem_of_getElem? (i := 11) rfl))) rfl
theorem mw3 : Cond.initialized RX3 ∈ wsA := wa_in (List.mem_append_right _ (List.mem_append_left _ (List.mem_of_getElem? (i := 1) rfl))) rfl
theorem mw4 : Cond.classLink RL 10 RX5 ∈ wsA := wa_in (List.mem_append_right _ (List.mem_append_right _ (List.mem_append_right _ (List.mem_append_left _ (List.mem_of_getElem? (i := 46) rfl))))) rfl
theorem mw5 : Cond.instantiable RX5 5 ∈ wsA := wa_in (List.mem_append_right _ (List.mem_append_right _ (List.mem_append_right _ (List.mem_append_left _ (List.mem_of_getElem? (i := 47) rfl))))) rfl
theorem mw6 : Cond.initialized RX5 ∈ wsA := wa_in (List.mem_append_right _ (List.mem_append_left _ (List.mem_of_getElem? (i := 5) rfl))) rfl
theorem mw7 : Cond.methodLink RL 9 yX3_init ∈ wsA := wa_in (List.mem_append_right _ (List.mem_append_left _ (List.mem_of_getElem? (i := 12) rfl))) rfl
theorem mw8 : Cond.instanceMethod yX3_init ∈ wsA := wa_in (List.mem_append_right _ (List.mem_append_left _ (List.mem_of_getElem? (i := 13) rfl))) rfl
theorem mw9 : Cond.code yX3_init cX3_init 1 none ∈ wsA := wa_in (List.mem_append_right _ (List.mem_append_left _ (List.mem_of_getElem? (i := 14) rfl))) rfl
theorem mw10 : Cond.methodLink RX3 3 objectInit ∈ wsA := wa_in (List.mem_append_right _ (List.mem_append_left _ (List.mem_of_getElem? (i := 15) rfl))) rfl
theorem mw11 : Cond.instanceMethod objectInit ∈ wsA := wa_in (List.mem_append_right _ (List.mem_append_left _ (List.mem_of_getElem? (i := 16) rfl))) rfl
theorem mw12 : Cond.code objectInit ⟨#[0xb1]⟩ 1 none ∈ wsA := wa_in (List.mem_append_right _ (List.mem_append_left _ (List.mem_of_getElem? (i := 17) rfl))) rfl
theorem mw13 : Cond.classLink RX3 9 RX1 ∈ wsA := wa_in (List.mem_append_right _ (List.mem_append_left _ (List.mem_of_getElem? (i := 18) rfl))) rfl
theorem mw14 : Cond.instantiable RX1 13 ∈ wsA := wa_in (List.mem_append_right _ (List.mem_append_left _ (List.mem_of_getElem? (i := 19) rfl))) rfl
theorem mw15 : Cond.initialized RX1 ∈ wsA := wa_in (List.mem_append_right _ (List.mem_append_left _ (List.mem_of_getElem? (i := 2) rfl))) rfl
theorem mw16 : Cond.fieldLink RX3 12 "GuestHouse" "host" "LGuestHouse$Host;" ∈ wsA := wa_in (List.mem_append_right _ (List.mem_append_left _ (List.mem_of_getElem? (i := 101) rfl))) rfl
theorem mw17 : Cond.classLink RX3 16 RX2 ∈ wsA := wa_in (List.mem_append_right _ (List.mem_append_left _ (List.mem_of_getElem? (i := 66) rfl))) rfl
theorem mw18 : Cond.instantiable RX2 5 ∈ wsA := wa_in (List.mem_append_right _ (List.mem_append_left _ (List.mem_of_getElem? (i := 67) rfl))) rfl
theorem mw19 : Cond.initialized RX2 ∈ wsA := wa_in (List.mem_append_right _ (List.mem_append_left _ (List.mem_of_getElem? (i := 3) rfl))) rfl
theorem mw20 : Cond.fieldLink RX3 21 "GuestHouse" "processor" "LGuestHouse$Processor;" ∈ wsA := wa_in (List.mem_append_right _ (List.mem_append_left _ (List.mem_of_getElem? (i := 102) rfl))) rfl
theorem mw21 : Cond.classLink RX3 25 RX0 ∈ wsA := wa_in (List.mem_append_right _ (List.mem_append_left _ (List.mem_of_getElem? (i := 88) rfl))) rfl
theorem mw22 : Cond.fieldLink RX3 27 "GuestHouse" "guests" "[LGuestHouse$Guest;" ∈ wsA := wa_in (List.mem_append_right _ (List.mem_append_left _ (List.mem_of_getElem? (i := 103) rfl))) rfl
theorem mw23 : Cond.instanceMethod yX1_init ∈ wsA := wa_in (List.mem_append_right _ (List.mem_append_left _ (List.mem_of_getElem? (i := 21) rfl))) rfl
theorem mw24 : Cond.code yX1_init cX1_init 1 none ∈ wsA := wa_in (List.mem_append_right _ (List.mem_append_left _ (List.mem_of_getElem? (i := 22) rfl))) rfl
theorem mw25 : Cond.methodLink RX1 3 objectInit ∈ wsA := wa_in (List.mem_append_right _ (List.mem_append_left _ (List.mem_of_getElem? (i := 23) rfl))) rfl
theorem mw26 : Cond.arrayClass .int ∈ wsA := wa_in (List.mem_append_right _ (List.mem_append_left _ (List.mem_of_getElem? (i := 64) rfl))) rfl
theorem mw27 : Cond.fieldLink RX1 9 "GuestHouse$Host" "memory" "[I" ∈ wsA := wa_in (List.mem_append_right _ (List.mem_append_left _ (List.mem_of_getElem? (i := 28) rfl))) rfl
theorem mw28 : Cond.fieldLink RX1 15 "GuestHouse$Host" "away" "[I" ∈ wsA := wa_in (List.mem_append_right _ (List.mem_append_left _ (List.mem_of_getElem? (i := 29) rfl))) rfl
theorem mw29 : Cond.fieldLink RX1 18 "GuestHouse$Host" "owner" "[I" ∈ wsA := wa_in (List.mem_append_right _ (List.mem_append_left _ (List.mem_of_getElem? (i := 30) rfl))) rfl
theorem mw30 : Cond.arrayClass .boolean ∈ wsA := wa_in (List.mem_append_right _ (List.mem_append_left _ (List.mem_of_getElem? (i := 65) rfl))) rfl
theorem mw31 : Cond.fieldLink RX1 21 "GuestHouse$Host" "recent" "[Z" ∈ wsA := wa_in (List.mem_append_right _ (List.mem_append_left _ (List.mem_of_getElem? (i := 31) rfl))) rfl
theorem mw32 : Cond.fieldLink RX1 25 "GuestHouse$Host" "uses" "[I" ∈ wsA := wa_in (List.mem_append_right _ (List.mem_append_left _ (List.mem_of_getElem? (i := 32) rfl))) rfl
theorem mw33 : Cond.fieldLink RX1 28 "GuestHouse$Host" "where" "[I" ∈ wsA := wa_in (List.mem_append_right _ (List.mem_append_left _ (List.mem_of_getElem? (i := 33) rfl))) rfl
theorem mw34 : Cond.fieldLink RX1 31 "GuestHouse$Host" "changed" "[Z" ∈ wsA := wa_in (List.mem_append_right _ (List.mem_append_left _ (List.mem_of_getElem? (i := 34) rfl))) rfl
theorem mw35 : Cond.fieldLink RX1 34 "GuestHouse$Host" "free" "[I" ∈ wsA := wa_in (List.mem_append_right _ (List.mem_append_left _ (List.mem_of_getElem? (i := 35) rfl))) rfl
theorem mw36 : Cond.fieldLink RX1 37 "GuestHouse$Host" "seen" "[I" ∈ wsA := wa_in (List.mem_append_right _ (List.mem_append_left _ (List.mem_of_getElem? (i := 36) rfl))) rfl
theorem mw37 : Cond.methodLink RX3 18 yX2_init ∈ wsA := wa_in (List.mem_append_right _ (List.mem_append_left _ (List.mem_of_getElem? (i := 68) rfl))) rfl
theorem mw38 : Cond.instanceMethod yX2_init ∈ wsA := wa_in (List.mem_append_right _ (List.mem_append_left _ (List.mem_of_getElem? (i := 69) rfl))) rfl
theorem mw39 : Cond.code yX2_init cX2_init 2 none ∈ wsA := wa_in (List.mem_append_right _ (List.mem_append_left _ (List.mem_of_getElem? (i := 70) rfl))) rfl
theorem mw40 : Cond.methodLink RX2 3 objectInit ∈ wsA := wa_in (List.mem_append_right _ (List.mem_append_left _ (List.mem_of_getElem? (i := 71) rfl))) rfl
theorem mw41 : Cond.fieldLink RX2 9 "GuestHouse$Processor" "host" "LGuestHouse$Host;" ∈ wsA := wa_in (List.mem_append_right _ (List.mem_append_left _ (List.mem_of_getElem? (i := 72) rfl))) rfl
theorem mw42 : Cond.methodLink RX3 31 yX3_settle ∈ wsA := wa_in (List.mem_append_right _ (List.mem_append_left _ (List.mem_of_getElem? (i := 90) rfl))) rfl
theorem mw43 : Cond.instanceMethod yX3_settle ∈ wsA := wa_in (List.mem_append_right _ (List.mem_append_left _ (List.mem_of_getElem? (i := 92) rfl))) rfl
theorem mw44 : Cond.selects RX3 yX3_settle yX3_settle ∈ wsA := wa_in (List.mem_append_left _ (List.mem_of_getElem? (i := 0) rfl)) rfl
theorem mw45 : Cond.code yX3_settle cX3_settle 4 none ∈ wsA := wa_in (List.mem_append_right _ (List.mem_append_left _ (List.mem_of_getElem? (i := 93) rfl))) rfl
theorem mw46 : Cond.fieldLink RX3 139 "GuestHouse" "slice" "I" ∈ wsA := wa_in (List.mem_append_right _ (List.mem_append_left _ (List.mem_of_getElem? (i := 104) rfl))) rfl
theorem mw47 : Cond.fieldLink RX3 126 "GuestHouse" "current" "I" ∈ wsA := wa_in (List.mem_append_right _ (List.mem_append_left _ (List.mem_of_getElem? (i := 105) rfl))) rfl
theorem mw48 : Cond.fieldLink RX3 103 "GuestHouse" "left" "I" ∈ wsA := wa_in (List.mem_append_right _ (List.mem_append_left _ (List.mem_of_getElem? (i := 106) rfl))) rfl
theorem mw49 : Cond.fieldLink RX3 106 "GuestHouse" "steps" "I" ∈ wsA := wa_in (List.mem_append_right _ (List.mem_append_left _ (List.mem_of_getElem? (i := 107) rfl))) rfl
theorem mw50 : Cond.methodLink RX3 138 yX1_renew ∈ wsA := wa_in (List.mem_append_right _ (List.mem_append_left _ (List.mem_of_getElem? (i := 94) rfl))) rfl
theorem mw51 : Cond.instanceMethod yX1_renew ∈ wsA := wa_in (List.mem_append_right _ (List.mem_append_left _ (List.mem_of_getElem? (i := 95) rfl))) rfl
theorem mw52 : Cond.selects RX1 yX1_renew yX1_renew ∈ wsA := wa_in (List.mem_append_right _ (List.mem_append_left _ (List.mem_of_getElem? (i := 96) rfl))) rfl
theorem mw53 : Cond.code yX1_renew cX1_renew 3 none ∈ wsA := wa_in (List.mem_append_right _ (List.mem_append_left _ (List.mem_of_getElem? (i := 97) rfl))) rfl
theorem mw54 : Cond.fieldLink RX1 40 "GuestHouse$Host" "frames" "I" ∈ wsA := wa_in (List.mem_append_right _ (List.mem_append_left _ (List.mem_of_getElem? (i := 24) rfl))) rfl
theorem mw55 : Cond.fieldLink RX1 44 "GuestHouse$Host" "opened" "I" ∈ wsA := wa_in (List.mem_append_right _ (List.mem_append_left _ (List.mem_of_getElem? (i := 25) rfl))) rfl
theorem mw56 : Cond.fieldLink RX1 47 "GuestHouse$Host" "hand" "I" ∈ wsA := wa_in (List.mem_append_right _ (List.mem_append_left _ (List.mem_of_getElem? (i := 26) rfl))) rfl
theorem mw57 : Cond.fieldLink RX1 56 "GuestHouse$Host" "freeCount" "I" ∈ wsA := wa_in (List.mem_append_right _ (List.mem_append_left _ (List.mem_of_getElem? (i := 27) rfl))) rfl
theorem mw58 : Cond.methodLink RX1 50 yJ7_fill_53178 ∈ wsA := wa_in (List.mem_append_right _ (List.mem_append_left _ (List.mem_of_getElem? (i := 98) rfl))) rfl
theorem mw59 : Cond.static yJ7_fill_53178 ∈ wsA := wa_in (List.mem_append_right _ (List.mem_append_left _ (List.mem_of_getElem? (i := 99) rfl))) rfl
theorem mw60 : Cond.initialized RJ7 ∈ wsA := wa_in (List.mem_append_right _ (List.mem_append_left _ (List.mem_of_getElem? (i := 4) rfl))) rfl
theorem mw61 : Cond.code yJ7_fill_53178 cJ7_fill_53178 4 none ∈ wsA := wa_in (List.mem_append_right _ (List.mem_append_left _ (List.mem_of_getElem? (i := 100) rfl))) rfl
theorem mw62 : Cond.methodLink RL 12 yX5_init ∈ wsA := wa_in (List.mem_append_right _ (List.mem_append_right _ (List.mem_append_right _ (List.mem_append_left _ (List.mem_of_getElem? (i := 48) rfl))))) rfl
theorem mw63 : Cond.instanceMethod yX5_init ∈ wsA := wa_in (List.mem_append_right _ (List.mem_append_right _ (List.mem_append_right _ (List.mem_append_left _ (List.mem_of_getElem? (i := 49) rfl))))) rfl
theorem mw64 : Cond.code yX5_init cX5_init 2 none ∈ wsA := wa_in (List.mem_append_right _ (List.mem_append_right _ (List.mem_append_right _ (List.mem_append_left _ (List.mem_of_getElem? (i := 50) rfl))))) rfl
theorem mw65 : Cond.methodLink RX5 2 objectInit ∈ wsA := wa_in (List.mem_append_right _ (List.mem_append_right _ (List.mem_append_right _ (List.mem_append_left _ (List.mem_of_getElem? (i := 51) rfl))))) rfl
theorem mw66 : Cond.classLink RX5 10 RX4 ∈ wsA := wa_in (List.mem_append_right _ (List.mem_append_right _ (List.mem_append_right _ (List.mem_append_left _ (List.mem_of_getElem? (i := 52) rfl))))) rfl
theorem mw67 : Cond.fieldLink RX5 12 "GuestHouseModel" "guests" "[LGuestHouseModel$Bare;" ∈ wsA := wa_in (List.mem_append_right _ (List.mem_append_right _ (List.mem_append_right _ (List.mem_append_left _ (List.mem_of_getElem? (i := 134) rfl))))) rfl
theorem mw68 : Cond.fieldLink RX5 16 "GuestHouseModel" "slice" "I" ∈ wsA := wa_in (List.mem_append_right _ (List.mem_append_right _ (List.mem_append_right _ (List.mem_append_left _ (List.mem_of_getElem? (i := 135) rfl))))) rfl
theorem mw69 : Cond.fieldLink RX5 20 "GuestHouseModel" "current" "I" ∈ wsA := wa_in (List.mem_append_right _ (List.mem_append_right _ (List.mem_append_right _ (List.mem_append_left _ (List.mem_of_getElem? (i := 136) rfl))))) rfl
theorem mw70 : Cond.instantiable RX4 19 ∈ wsA := wa_in (List.mem_append_right _ (List.mem_append_right _ (List.mem_append_right _ (List.mem_append_left _ (List.mem_of_getElem? (i := 54) rfl))))) rfl
theorem mw71 : Cond.initialized RX4 ∈ wsA := wa_in (List.mem_append_right _ (List.mem_append_left _ (List.mem_of_getElem? (i := 6) rfl))) rfl
theorem mw72 : Cond.instanceMethod yX4_init ∈ wsA := wa_in (List.mem_append_right _ (List.mem_append_right _ (List.mem_append_right _ (List.mem_append_left _ (List.mem_of_getElem? (i := 56) rfl))))) rfl
theorem mw73 : Cond.code yX4_init cX4_init 1 none ∈ wsA := wa_in (List.mem_append_right _ (List.mem_append_right _ (List.mem_append_right _ (List.mem_append_left _ (List.mem_of_getElem? (i := 57) rfl))))) rfl
theorem mw74 : Cond.methodLink RX4 3 objectInit ∈ wsA := wa_in (List.mem_append_right _ (List.mem_append_right _ (List.mem_append_right _ (List.mem_append_left _ (List.mem_of_getElem? (i := 58) rfl))))) rfl
theorem mw75 : Cond.fieldLink RX4 9 "GuestHouseModel$Bare" "memory" "[I" ∈ wsA := wa_in (List.mem_append_right _ (List.mem_append_right _ (List.mem_append_right _ (List.mem_append_left _ (List.mem_of_getElem? (i := 63) rfl))))) rfl
theorem mw76 : Cond.fieldLink RX4 15 "GuestHouseModel$Bare" "disk" "[I" ∈ wsA := wa_in (List.mem_append_right _ (List.mem_append_right _ (List.mem_append_right _ (List.mem_append_left _ (List.mem_of_getElem? (i := 65) rfl))))) rfl
theorem mw77 : Cond.fieldLink RX4 18 "GuestHouseModel$Bare" "\x72" "[I" ∈ wsA := wa_in (List.mem_append_right _ (List.mem_append_right _ (List.mem_append_right _ (List.mem_append_left _ (List.mem_of_getElem? (i := 67) rfl))))) rfl
theorem mw78 : Cond.fieldLink RX4 21 "GuestHouseModel$Bare" "control" "[I" ∈ wsA := wa_in (List.mem_append_right _ (List.mem_append_right _ (List.mem_append_right _ (List.mem_append_left _ (List.mem_of_getElem? (i := 69) rfl))))) rfl
theorem mw79 : Cond.fieldLink RX4 24 "GuestHouseModel$Bare" "frameOf" "[I" ∈ wsA := wa_in (List.mem_append_right _ (List.mem_append_right _ (List.mem_append_right _ (List.mem_append_left _ (List.mem_of_getElem? (i := 71) rfl))))) rfl
theorem mw80 : Cond.fieldLink RX4 27 "GuestHouseModel$Bare" "bits" "[I" ∈ wsA := wa_in (List.mem_append_right _ (List.mem_append_right _ (List.mem_append_right _ (List.mem_append_left _ (List.mem_of_getElem? (i := 73) rfl))))) rfl
theorem mw81 : Cond.fieldLink RX4 30 "GuestHouseModel$Bare" "in" "[I" ∈ wsA := wa_in (List.mem_append_right _ (List.mem_append_right _ (List.mem_append_right _ (List.mem_append_left _ (List.mem_of_getElem? (i := 75) rfl))))) rfl
theorem mw82 : Cond.fieldLink RX4 33 "GuestHouseModel$Bare" "out" "[I" ∈ wsA := wa_in (List.mem_append_right _ (List.mem_append_right _ (List.mem_append_right _ (List.mem_append_left _ (List.mem_of_getElem? (i := 77) rfl))))) rfl
theorem mw83 : Cond.methodLink RL 13 yX3_install ∈ wsA := wa_in (List.mem_append_right _ (List.mem_append_left _ (List.mem_of_getElem? (i := 123) rfl))) rfl
theorem mw84 : Cond.instanceMethod yX3_install ∈ wsA := wa_in (List.mem_append_right _ (List.mem_append_left _ (List.mem_of_getElem? (i := 124) rfl))) rfl
theorem mw85 : Cond.selects RX3 yX3_install yX3_install ∈ wsA := wa_in (List.mem_append_right _ (List.mem_append_left _ (List.mem_of_getElem? (i := 125) rfl))) rfl
theorem mw86 : Cond.code yX3_install cX3_install 3 (some .int) ∈ wsA := wa_in (List.mem_append_right _ (List.mem_append_left _ (List.mem_of_getElem? (i := 126) rfl))) rfl
theorem mw87 : Cond.methodLink RL 17 yX5_install ∈ wsA := wa_in (List.mem_append_right _ (List.mem_append_right _ (List.mem_append_right _ (List.mem_append_left _ (List.mem_of_getElem? (i := 150) rfl))))) rfl
theorem mw88 : Cond.instanceMethod yX5_install ∈ wsA := wa_in (List.mem_append_right _ (List.mem_append_right _ (List.mem_append_right _ (List.mem_append_left _ (List.mem_of_getElem? (i := 151) rfl))))) rfl
theorem mw89 : Cond.selects RX5 yX5_install yX5_install ∈ wsA := wa_in (List.mem_append_right _ (List.mem_append_right _ (List.mem_append_right _ (List.mem_append_left _ (List.mem_of_getElem? (i := 152) rfl))))) rfl
theorem mw90 : Cond.code yX5_install cX5_install 4 (some .int) ∈ wsA := wa_in (List.mem_append_right _ (List.mem_append_right _ (List.mem_append_right _ (List.mem_append_left _ (List.mem_of_getElem? (i := 153) rfl))))) rfl
theorem mw91 : Cond.fieldLink RX5 24 "GuestHouseModel$Bare" "isThere" "Z" ∈ wsA := wa_in (List.mem_append_right _ (List.mem_append_right _ (List.mem_append_right _ (List.mem_append_left _ (List.mem_of_getElem? (i := 62) rfl))))) rfl
theorem mw92 : Cond.fieldLink RX5 28 "GuestHouseModel" "left" "I" ∈ wsA := wa_in (List.mem_append_right _ (List.mem_append_right _ (List.mem_append_right _ (List.mem_append_left _ (List.mem_of_getElem? (i := 137) rfl))))) rfl
theorem mw93 : Cond.fieldLink RX5 31 "GuestHouseModel" "steps" "I" ∈ wsA := wa_in (List.mem_append_right _ (List.mem_append_right _ (List.mem_append_right _ (List.mem_append_left _ (List.mem_of_getElem? (i := 138) rfl))))) rfl
theorem mw94 : Cond.methodLink RL 18 yX3_guest ∈ wsA := wa_in (List.mem_append_right _ (List.mem_append_left _ (List.mem_of_getElem? (i := 127) rfl))) rfl
theorem mw95 : Cond.instanceMethod yX3_guest ∈ wsA := wa_in (List.mem_append_right _ (List.mem_append_left _ (List.mem_of_getElem? (i := 128) rfl))) rfl
theorem mw96 : Cond.selects RX3 yX3_guest yX3_guest ∈ wsA := wa_in (List.mem_append_right _ (List.mem_append_left _ (List.mem_of_getElem? (i := 129) rfl))) rfl
theorem mw97 : Cond.code yX3_guest cX3_guest 4 (some .int) ∈ wsA := wa_in (List.mem_append_right _ (List.mem_append_left _ (List.mem_of_getElem? (i := 130) rfl))) rfl
theorem mw98 : Cond.methodLink RX3 35 yX3_leastFree ∈ wsA := wa_in (List.mem_append_right _ (List.mem_append_left _ (List.mem_of_getElem? (i := 131) rfl))) rfl
theorem mw99 : Cond.instanceMethod yX3_leastFree ∈ wsA := wa_in (List.mem_append_right _ (List.mem_append_left _ (List.mem_of_getElem? (i := 133) rfl))) rfl
theorem mw100 : Cond.selects RX3 yX3_leastFree yX3_leastFree ∈ wsA := wa_in (List.mem_append_left _ (List.mem_of_getElem? (i := 1) rfl)) rfl
theorem mw101 : Cond.code yX3_leastFree cX3_leastFree 2 (some .int) ∈ wsA := wa_in (List.mem_append_right _ (List.mem_append_left _ (List.mem_of_getElem? (i := 134) rfl))) rfl
theorem mw102 : Cond.methodLink RX3 51 yX3_find ∈ wsA := wa_in (List.mem_append_right _ (List.mem_append_left _ (List.mem_of_getElem? (i := 135) rfl))) rfl
theorem mw103 : Cond.instanceMethod yX3_find ∈ wsA := wa_in (List.mem_append_right _ (List.mem_append_left _ (List.mem_of_getElem? (i := 137) rfl))) rfl
theorem mw104 : Cond.selects RX3 yX3_find yX3_find ∈ wsA := wa_in (List.mem_append_left _ (List.mem_of_getElem? (i := 2) rfl)) rfl
theorem mw105 : Cond.code yX3_find cX3_find 3 (some (.object "GuestHouse$Guest")) ∈ wsA := wa_in (List.mem_append_right _ (List.mem_append_left _ (List.mem_of_getElem? (i := 138) rfl))) rfl
theorem mw106 : Cond.methodLink RX3 39 yX3_room ∈ wsA := wa_in (List.mem_append_right _ (List.mem_append_left _ (List.mem_of_getElem? (i := 139) rfl))) rfl
theorem mw107 : Cond.instanceMethod yX3_room ∈ wsA := wa_in (List.mem_append_right _ (List.mem_append_left _ (List.mem_of_getElem? (i := 141) rfl))) rfl
theorem mw108 : Cond.selects RX3 yX3_room yX3_room ∈ wsA := wa_in (List.mem_append_left _ (List.mem_of_getElem? (i := 3) rfl)) rfl
theorem mw109 : Cond.code yX3_room cX3_room 4 (some (.object "GuestHouse$Guest")) ∈ wsA := wa_in (List.mem_append_right _ (List.mem_append_left _ (List.mem_of_getElem? (i := 142) rfl))) rfl
theorem mw110 : Cond.instantiable RX0 17 ∈ wsA := wa_in (List.mem_append_right _ (List.mem_append_left _ (List.mem_of_getElem? (i := 143) rfl))) rfl
theorem mw111 : Cond.initialized RX0 ∈ wsA := wa_in (List.mem_append_right _ (List.mem_append_left _ (List.mem_of_getElem? (i := 7) rfl))) rfl
theorem mw112 : Cond.instanceMethod yX0_init ∈ wsA := wa_in (List.mem_append_right _ (List.mem_append_left _ (List.mem_of_getElem? (i := 145) rfl))) rfl
theorem mw113 : Cond.code yX0_init cX0_init 1 none ∈ wsA := wa_in (List.mem_append_right _ (List.mem_append_left _ (List.mem_of_getElem? (i := 146) rfl))) rfl
theorem mw114 : Cond.methodLink RX0 3 objectInit ∈ wsA := wa_in (List.mem_append_right _ (List.mem_append_left _ (List.mem_of_getElem? (i := 147) rfl))) rfl
theorem mw115 : Cond.fieldLink RX0 9 "GuestHouse$Guest" "sheets" "[I" ∈ wsA := wa_in (List.mem_append_right _ (List.mem_append_left _ (List.mem_of_getElem? (i := 166) rfl))) rfl
theorem mw116 : Cond.fieldLink RX0 15 "GuestHouse$Guest" "sectors" "[I" ∈ wsA := wa_in (List.mem_append_right _ (List.mem_append_left _ (List.mem_of_getElem? (i := 168) rfl))) rfl
theorem mw117 : Cond.fieldLink RX0 18 "GuestHouse$Guest" "registers" "[I" ∈ wsA := wa_in (List.mem_append_right _ (List.mem_append_left _ (List.mem_of_getElem? (i := 171) rfl))) rfl
theorem mw118 : Cond.fieldLink RX0 21 "GuestHouse$Guest" "controls" "[I" ∈ wsA := wa_in (List.mem_append_right _ (List.mem_append_left _ (List.mem_of_getElem? (i := 173) rfl))) rfl
theorem mw119 : Cond.fieldLink RX0 24 "GuestHouse$Guest" "cache" "[I" ∈ wsA := wa_in (List.mem_append_right _ (List.mem_append_left _ (List.mem_of_getElem? (i := 175) rfl))) rfl
theorem mw120 : Cond.fieldLink RX0 27 "GuestHouse$Guest" "arrivals" "[I" ∈ wsA := wa_in (List.mem_append_right _ (List.mem_append_left _ (List.mem_of_getElem? (i := 178) rfl))) rfl
theorem mw121 : Cond.fieldLink RX0 30 "GuestHouse$Guest" "kept" "[I" ∈ wsA := wa_in (List.mem_append_right _ (List.mem_append_left _ (List.mem_of_getElem? (i := 182) rfl))) rfl
theorem mw122 : Cond.methodLink RX3 43 yX0_renew ∈ wsA := wa_in (List.mem_append_right _ (List.mem_append_left _ (List.mem_of_getElem? (i := 221) rfl))) rfl
theorem mw123 : Cond.instanceMethod yX0_renew ∈ wsA := wa_in (List.mem_append_right _ (List.mem_append_left _ (List.mem_of_getElem? (i := 222) rfl))) rfl
theorem mw124 : Cond.selects RX0 yX0_renew yX0_renew ∈ wsA := wa_in (List.mem_append_right _ (List.mem_append_left _ (List.mem_of_getElem? (i := 223) rfl))) rfl
theorem mw125 : Cond.code yX0_renew cX0_renew 2 none ∈ wsA := wa_in (List.mem_append_right _ (List.mem_append_left _ (List.mem_of_getElem? (i := 224) rfl))) rfl
theorem mw126 : Cond.fieldLink RX0 33 "GuestHouse$Guest" "here" "Z" ∈ wsA := wa_in (List.mem_append_right _ (List.mem_append_left _ (List.mem_of_getElem? (i := 148) rfl))) rfl
theorem mw127 : Cond.fieldLink RX0 37 "GuestHouse$Guest" "phase" "I" ∈ wsA := wa_in (List.mem_append_right _ (List.mem_append_left _ (List.mem_of_getElem? (i := 151) rfl))) rfl
theorem mw128 : Cond.fieldLink RX0 41 "GuestHouse$Guest" "frames" "I" ∈ wsA := wa_in (List.mem_append_right _ (List.mem_append_left _ (List.mem_of_getElem? (i := 163) rfl))) rfl
theorem mw129 : Cond.fieldLink RX0 53 "GuestHouse$Guest" "oldest" "I" ∈ wsA := wa_in (List.mem_append_right _ (List.mem_append_left _ (List.mem_of_getElem? (i := 179) rfl))) rfl
theorem mw130 : Cond.fieldLink RX0 56 "GuestHouse$Guest" "waiting" "I" ∈ wsA := wa_in (List.mem_append_right _ (List.mem_append_left _ (List.mem_of_getElem? (i := 180) rfl))) rfl
theorem mw131 : Cond.fieldLink RX0 59 "GuestHouse$Guest" "putCount" "I" ∈ wsA := wa_in (List.mem_append_right _ (List.mem_append_left _ (List.mem_of_getElem? (i := 184) rfl))) rfl
theorem mw132 : Cond.methodLink RX0 44 yX0_reset ∈ wsA := wa_in (List.mem_append_right _ (List.mem_append_left _ (List.mem_of_getElem? (i := 225) rfl))) rfl
theorem mw133 : Cond.instanceMethod yX0_reset ∈ wsA := wa_in (List.mem_append_right _ (List.mem_append_left _ (List.mem_of_getElem? (i := 226) rfl))) rfl
theorem mw134 : Cond.selects RX0 yX0_reset yX0_reset ∈ wsA := wa_in (List.mem_append_right _ (List.mem_append_left _ (List.mem_of_getElem? (i := 227) rfl))) rfl
theorem mw135 : Cond.code yX0_reset cX0_reset 1 none ∈ wsA := wa_in (List.mem_append_right _ (List.mem_append_left _ (List.mem_of_getElem? (i := 228) rfl))) rfl
theorem mw136 : Cond.fieldLink RX0 62 "GuestHouse$Guest" "pc" "I" ∈ wsA := wa_in (List.mem_append_right _ (List.mem_append_left _ (List.mem_of_getElem? (i := 155) rfl))) rfl
theorem mw137 : Cond.fieldLink RX0 65 "GuestHouse$Guest" "mode" "I" ∈ wsA := wa_in (List.mem_append_right _ (List.mem_append_left _ (List.mem_of_getElem? (i := 158) rfl))) rfl
theorem mw138 : Cond.fieldLink RX0 68 "GuestHouse$Guest" "place" "I" ∈ wsA := wa_in (List.mem_append_right _ (List.mem_append_left _ (List.mem_of_getElem? (i := 160) rfl))) rfl
theorem mw139 : Cond.fieldLink RX0 71 "GuestHouse$Guest" "traps" "I" ∈ wsA := wa_in (List.mem_append_right _ (List.mem_append_left _ (List.mem_of_getElem? (i := 162) rfl))) rfl
theorem mw140 : Cond.methodLink RX0 47 yJ7_fill_53178 ∈ wsA := wa_in (List.mem_append_right _ (List.mem_append_left _ (List.mem_of_getElem? (i := 229) rfl))) rfl
theorem mw141 : Cond.methodLink RX0 74 yX0_emptyCache ∈ wsA := wa_in (List.mem_append_right _ (List.mem_append_left _ (List.mem_of_getElem? (i := 230) rfl))) rfl
theorem mw142 : Cond.instanceMethod yX0_emptyCache ∈ wsA := wa_in (List.mem_append_right _ (List.mem_append_left _ (List.mem_of_getElem? (i := 231) rfl))) rfl
theorem mw143 : Cond.selects RX0 yX0_emptyCache yX0_emptyCache ∈ wsA := wa_in (List.mem_append_right _ (List.mem_append_left _ (List.mem_of_getElem? (i := 232) rfl))) rfl
theorem mw144 : Cond.code yX0_emptyCache cX0_emptyCache 1 none ∈ wsA := wa_in (List.mem_append_right _ (List.mem_append_left _ (List.mem_of_getElem? (i := 233) rfl))) rfl
theorem mw145 : Cond.methodLink RX3 47 yX1_lendBlank ∈ wsA := wa_in (List.mem_append_right _ (List.mem_append_left _ (List.mem_of_getElem? (i := 234) rfl))) rfl
theorem mw146 : Cond.instanceMethod yX1_lendBlank ∈ wsA := wa_in (List.mem_append_right _ (List.mem_append_left _ (List.mem_of_getElem? (i := 235) rfl))) rfl
theorem mw147 : Cond.selects RX1 yX1_lendBlank yX1_lendBlank ∈ wsA := wa_in (List.mem_append_right _ (List.mem_append_left _ (List.mem_of_getElem? (i := 236) rfl))) rfl
theorem mw148 : Cond.code yX1_lendBlank cX1_lendBlank 3 none ∈ wsA := wa_in (List.mem_append_right _ (List.mem_append_left _ (List.mem_of_getElem? (i := 237) rfl))) rfl
theorem mw149 : Cond.methodLink RL 22 yX5_guest ∈ wsA := wa_in (List.mem_append_right _ (List.mem_append_right _ (List.mem_append_right _ (List.mem_append_left _ (List.mem_of_getElem? (i := 154) rfl))))) rfl
theorem mw150 : Cond.instanceMethod yX5_guest ∈ wsA := wa_in (List.mem_append_right _ (List.mem_append_right _ (List.mem_append_right _ (List.mem_append_left _ (List.mem_of_getElem? (i := 155) rfl))))) rfl
theorem mw151 : Cond.selects RX5 yX5_guest yX5_guest ∈ wsA := wa_in (List.mem_append_right _ (List.mem_append_right _ (List.mem_append_right _ (List.mem_append_left _ (List.mem_of_getElem? (i := 156) rfl))))) rfl
theorem mw152 : Cond.code yX5_guest cX5_guest 3 (some .int) ∈ wsA := wa_in (List.mem_append_right _ (List.mem_append_right _ (List.mem_append_right _ (List.mem_append_left _ (List.mem_of_getElem? (i := 157) rfl))))) rfl
theorem mw153 : Cond.methodLink RX5 34 yX5_free ∈ wsA := wa_in (List.mem_append_right _ (List.mem_append_right _ (List.mem_append_right _ (List.mem_append_left _ (List.mem_of_getElem? (i := 158) rfl))))) rfl
theorem mw154 : Cond.instanceMethod yX5_free ∈ wsA := wa_in (List.mem_append_right _ (List.mem_append_right _ (List.mem_append_right _ (List.mem_append_left _ (List.mem_of_getElem? (i := 160) rfl))))) rfl
theorem mw155 : Cond.selects RX5 yX5_free yX5_free ∈ wsA := wa_in (List.mem_append_left _ (List.mem_of_getElem? (i := 27) rfl)) rfl
theorem mw156 : Cond.code yX5_free cX5_free 2 (some .int) ∈ wsA := wa_in (List.mem_append_right _ (List.mem_append_right _ (List.mem_append_right _ (List.mem_append_left _ (List.mem_of_getElem? (i := 161) rfl))))) rfl
theorem mw157 : Cond.methodLink RX5 38 yX4_make ∈ wsA := wa_in (List.mem_append_right _ (List.mem_append_right _ (List.mem_append_right _ (List.mem_append_left _ (List.mem_of_getElem? (i := 162) rfl))))) rfl
theorem mw158 : Cond.instanceMethod yX4_make ∈ wsA := wa_in (List.mem_append_right _ (List.mem_append_right _ (List.mem_append_right _ (List.mem_append_left _ (List.mem_of_getElem? (i := 163) rfl))))) rfl
theorem mw159 : Cond.selects RX4 yX4_make yX4_make ∈ wsA := wa_in (List.mem_append_right _ (List.mem_append_right _ (List.mem_append_right _ (List.mem_append_left _ (List.mem_of_getElem? (i := 164) rfl))))) rfl
theorem mw160 : Cond.code yX4_make cX4_make 3 none ∈ wsA := wa_in (List.mem_append_right _ (List.mem_append_right _ (List.mem_append_right _ (List.mem_append_left _ (List.mem_of_getElem? (i := 165) rfl))))) rfl
theorem mw161 : Cond.fieldLink RX4 36 "GuestHouseModel$Bare" "frames" "I" ∈ wsA := wa_in (List.mem_append_right _ (List.mem_append_right _ (List.mem_append_right _ (List.mem_append_left _ (List.mem_of_getElem? (i := 59) rfl))))) rfl
theorem mw162 : Cond.fieldLink RX4 40 "GuestHouseModel$Bare" "isThere" "Z" ∈ wsA := wa_in (List.mem_append_right _ (List.mem_append_right _ (List.mem_append_right _ (List.mem_append_left _ (List.mem_of_getElem? (i := 61) rfl))))) rfl
theorem mw163 : Cond.fieldLink RX4 44 "GuestHouseModel$Bare" "ins" "I" ∈ wsA := wa_in (List.mem_append_right _ (List.mem_append_right _ (List.mem_append_right _ (List.mem_append_left _ (List.mem_of_getElem? (i := 87) rfl))))) rfl
theorem mw164 : Cond.fieldLink RX4 47 "GuestHouseModel$Bare" "outs" "I" ∈ wsA := wa_in (List.mem_append_right _ (List.mem_append_right _ (List.mem_append_right _ (List.mem_append_left _ (List.mem_of_getElem? (i := 89) rfl))))) rfl
theorem mw165 : Cond.fieldLink RX4 54 "GuestHouseModel$Bare" "mode" "I" ∈ wsA := wa_in (List.mem_append_right _ (List.mem_append_right _ (List.mem_append_right _ (List.mem_append_left _ (List.mem_of_getElem? (i := 81) rfl))))) rfl
theorem mw166 : Cond.fieldLink RX4 57 "GuestHouseModel$Bare" "state" "I" ∈ wsA := wa_in (List.mem_append_right _ (List.mem_append_right _ (List.mem_append_right _ (List.mem_append_left _ (List.mem_of_getElem? (i := 83) rfl))))) rfl
theorem mw167 : Cond.methodLink RX4 50 yX4_start ∈ wsA := wa_in (List.mem_append_right _ (List.mem_append_right _ (List.mem_append_right _ (List.mem_append_left _ (List.mem_of_getElem? (i := 166) rfl))))) rfl
theorem mw168 : Cond.instanceMethod yX4_start ∈ wsA := wa_in (List.mem_append_right _ (List.mem_append_right _ (List.mem_append_right _ (List.mem_append_left _ (List.mem_of_getElem? (i := 167) rfl))))) rfl
theorem mw169 : Cond.selects RX4 yX4_start yX4_start ∈ wsA := wa_in (List.mem_append_right _ (List.mem_append_right _ (List.mem_append_right _ (List.mem_append_left _ (List.mem_of_getElem? (i := 168) rfl))))) rfl
theorem mw170 : Cond.code yX4_start cX4_start 3 none ∈ wsA := wa_in (List.mem_append_right _ (List.mem_append_right _ (List.mem_append_right _ (List.mem_append_left _ (List.mem_of_getElem? (i := 169) rfl))))) rfl
theorem mw171 : Cond.fieldLink RX4 63 "GuestHouseModel$Bare" "place" "I" ∈ wsA := wa_in (List.mem_append_right _ (List.mem_append_right _ (List.mem_append_right _ (List.mem_append_left _ (List.mem_of_getElem? (i := 85) rfl))))) rfl
theorem mw172 : Cond.fieldLink RX4 60 "GuestHouseModel$Bare" "pc" "I" ∈ wsA := wa_in (List.mem_append_right _ (List.mem_append_right _ (List.mem_append_right _ (List.mem_append_left _ (List.mem_of_getElem? (i := 79) rfl))))) rfl
theorem mw173 : Cond.fieldLink RX4 66 "GuestHouseModel$Bare" "traps" "I" ∈ wsA := wa_in (List.mem_append_right _ (List.mem_append_right _ (List.mem_append_right _ (List.mem_append_left _ (List.mem_of_getElem? (i := 91) rfl))))) rfl
theorem mw174 : Cond.methodLink RX4 69 yX4_forget ∈ wsA := wa_in (List.mem_append_right _ (List.mem_append_right _ (List.mem_append_right _ (List.mem_append_left _ (List.mem_of_getElem? (i := 170) rfl))))) rfl
theorem mw175 : Cond.instanceMethod yX4_forget ∈ wsA := wa_in (List.mem_append_right _ (List.mem_append_right _ (List.mem_append_right _ (List.mem_append_left _ (List.mem_of_getElem? (i := 172) rfl))))) rfl
theorem mw176 : Cond.selects RX4 yX4_forget yX4_forget ∈ wsA := wa_in (List.mem_append_left _ (List.mem_of_getElem? (i := 28) rfl)) rfl
theorem mw177 : Cond.code yX4_forget cX4_forget 2 none ∈ wsA := wa_in (List.mem_append_right _ (List.mem_append_right _ (List.mem_append_right _ (List.mem_append_left _ (List.mem_of_getElem? (i := 173) rfl))))) rfl
theorem mw178 : Cond.methodLink RL 23 yX3_poke ∈ wsA := wa_in (List.mem_append_right _ (List.mem_append_left _ (List.mem_of_getElem? (i := 238) rfl))) rfl
theorem mw179 : Cond.instanceMethod yX3_poke ∈ wsA := wa_in (List.mem_append_right _ (List.mem_append_left _ (List.mem_of_getElem? (i := 239) rfl))) rfl
theorem mw180 : Cond.selects RX3 yX3_poke yX3_poke ∈ wsA := wa_in (List.mem_append_right _ (List.mem_append_right _ (List.mem_append_left _ (List.mem_of_getElem? (i := 0) rfl)))) rfl
theorem mw181 : Cond.code yX3_poke cX3_poke 5 (some .int) ∈ wsA := wa_in (List.mem_append_right _ (List.mem_append_right _ (List.mem_append_left _ (List.mem_of_getElem? (i := 1) rfl)))) rfl
theorem mw182 : Cond.methodLink RX3 58 yX0_hasWord ∈ wsA := wa_in (List.mem_append_right _ (List.mem_append_right _ (List.mem_append_left _ (List.mem_of_getElem? (i := 2) rfl)))) rfl
theorem mw183 : Cond.instanceMethod yX0_hasWord ∈ wsA := wa_in (List.mem_append_right _ (List.mem_append_right _ (List.mem_append_left _ (List.mem_of_getElem? (i := 3) rfl)))) rfl
theorem mw184 : Cond.selects RX0 yX0_hasWord yX0_hasWord ∈ wsA := wa_in (List.mem_append_right _ (List.mem_append_right _ (List.mem_append_left _ (List.mem_of_getElem? (i := 4) rfl)))) rfl
theorem mw185 : Cond.code yX0_hasWord cX0_hasWord 2 (some .boolean) ∈ wsA := wa_in (List.mem_append_right _ (List.mem_append_right _ (List.mem_append_left _ (List.mem_of_getElem? (i := 5) rfl)))) rfl
theorem mw186 : Cond.methodLink RX3 62 yX1_write ∈ wsA := wa_in (List.mem_append_right _ (List.mem_append_right _ (List.mem_append_left _ (List.mem_of_getElem? (i := 6) rfl)))) rfl
theorem mw187 : Cond.instanceMethod yX1_write ∈ wsA := wa_in (List.mem_append_right _ (List.mem_append_right _ (List.mem_append_left _ (List.mem_of_getElem? (i := 7) rfl)))) rfl
theorem mw188 : Cond.selects RX1 yX1_write yX1_write ∈ wsA := wa_in (List.mem_append_right _ (List.mem_append_right _ (List.mem_append_left _ (List.mem_of_getElem? (i := 8) rfl)))) rfl
theorem mw189 : Cond.code yX1_write cX1_write 5 none ∈ wsA := wa_in (List.mem_append_right _ (List.mem_append_right _ (List.mem_append_left _ (List.mem_of_getElem? (i := 9) rfl)))) rfl
theorem mw190 : Cond.methodLink RX1 73 yX0_hasWord ∈ wsA := wa_in (List.mem_append_right _ (List.mem_append_right _ (List.mem_append_left _ (List.mem_of_getElem? (i := 10) rfl)))) rfl
theorem mw191 : Cond.methodLink RX1 76 yX1_bring ∈ wsA := wa_in (List.mem_append_right _ (List.mem_append_right _ (List.mem_append_left _ (List.mem_of_getElem? (i := 11) rfl)))) rfl
theorem mw192 : Cond.instanceMethod yX1_bring ∈ wsA := wa_in (List.mem_append_right _ (List.mem_append_right _ (List.mem_append_left _ (List.mem_of_getElem? (i := 13) rfl)))) rfl
theorem mw193 : Cond.selects RX1 yX1_bring yX1_bring ∈ wsA := wa_in (List.mem_append_left _ (List.mem_of_getElem? (i := 4) rfl)) rfl
theorem mw194 : Cond.code yX1_bring cX1_bring 3 (some .int) ∈ wsA := wa_in (List.mem_append_right _ (List.mem_append_right _ (List.mem_append_left _ (List.mem_of_getElem? (i := 14) rfl)))) rfl
theorem mw195 : Cond.methodLink RX1 87 arraycopyName ∈ wsA := wa_in (List.mem_append_right _ (List.mem_append_right _ (List.mem_append_left _ (List.mem_of_getElem? (i := 39) rfl)))) rfl
theorem mw196 : Cond.native arraycopyName ∈ wsA := wa_in (List.mem_append_right _ (List.mem_append_right _ (List.mem_append_left _ (List.mem_of_getElem? (i := 38) rfl)))) rfl
theorem mw197 : Cond.static arraycopyName ∈ wsA := wa_in (List.mem_append_right _ (List.mem_append_right _ (List.mem_append_left _ (List.mem_of_getElem? (i := 37) rfl)))) rfl
theorem mw198 : Cond.initialized "java/lang/System" ∈ wsA := wa_in (List.mem_append_right _ (List.mem_append_left _ (List.mem_of_getElem? (i := 9) rfl))) rfl
theorem mw199 : Cond.methodLink RX1 65 yX1_isSheet ∈ wsA := wa_in (List.mem_append_right _ (List.mem_append_right _ (List.mem_append_left _ (List.mem_of_getElem? (i := 15) rfl)))) rfl
theorem mw200 : Cond.instanceMethod yX1_isSheet ∈ wsA := wa_in (List.mem_append_right _ (List.mem_append_right _ (List.mem_append_left _ (List.mem_of_getElem? (i := 17) rfl)))) rfl
theorem mw201 : Cond.selects RX1 yX1_isSheet yX1_isSheet ∈ wsA := wa_in (List.mem_append_left _ (List.mem_of_getElem? (i := 5) rfl)) rfl
theorem mw202 : Cond.code yX1_isSheet cX1_isSheet 2 (some .boolean) ∈ wsA := wa_in (List.mem_append_right _ (List.mem_append_right _ (List.mem_append_left _ (List.mem_of_getElem? (i := 18) rfl)))) rfl
theorem mw203 : Cond.methodLink RX1 107 yX1_takeFrame ∈ wsA := wa_in (List.mem_append_right _ (List.mem_append_right _ (List.mem_append_left _ (List.mem_of_getElem? (i := 19) rfl)))) rfl
theorem mw204 : Cond.instanceMethod yX1_takeFrame ∈ wsA := wa_in (List.mem_append_right _ (List.mem_append_right _ (List.mem_append_left _ (List.mem_of_getElem? (i := 21) rfl)))) rfl
theorem mw205 : Cond.selects RX1 yX1_takeFrame yX1_takeFrame ∈ wsA := wa_in (List.mem_append_left _ (List.mem_of_getElem? (i := 6) rfl)) rfl
theorem mw206 : Cond.code yX1_takeFrame cX1_takeFrame 5 (some .int) ∈ wsA := wa_in (List.mem_append_right _ (List.mem_append_right _ (List.mem_append_left _ (List.mem_of_getElem? (i := 22) rfl)))) rfl
theorem mw207 : Cond.methodLink RX1 113 yJ7_copyOf_59c91 ∈ wsA := wa_in (List.mem_append_right _ (List.mem_append_right _ (List.mem_append_left _ (List.mem_of_getElem? (i := 23) rfl)))) rfl
theorem mw208 : Cond.static yJ7_copyOf_59c91 ∈ wsA := wa_in (List.mem_append_right _ (List.mem_append_right _ (List.mem_append_left _ (List.mem_of_getElem? (i := 24) rfl)))) rfl
theorem mw209 : Cond.code yJ7_copyOf_59c91 cJ7_copyOf_59c91 3 (some (.array .int)) ∈ wsA := wa_in (List.mem_append_right _ (List.mem_append_right _ (List.mem_append_left _ (List.mem_of_getElem? (i := 25) rfl)))) rfl
theorem mw210 : Cond.methodLink RJ7 316 ⟨"[I", "clone", "()Ljava/lang/Object;"⟩ ∈ wsA := wa_in (List.mem_append_right _ (List.mem_append_right _ (List.mem_append_left _ (List.mem_of_getElem? (i := 26) rfl)))) rfl
theorem mw211 : Cond.sameMethod "[I" "java/lang/Object" "clone" "()Ljava/lang/Object;" ∈ wsA := wa_in (List.mem_append_right _ (List.mem_append_right _ (List.mem_append_left _ (List.mem_of_getElem? (i := 27) rfl)))) rfl
theorem mw212 : Cond.native ⟨"java/lang/Object", "clone", "()Ljava/lang/Object;"⟩ ∈ wsA := wa_in (List.mem_append_right _ (List.mem_append_right _ (List.mem_append_left _ (List.mem_of_getElem? (i := 28) rfl)))) rfl
theorem mw213 : Cond.instanceMethod ⟨"java/lang/Object", "clone", "()Ljava/lang/Object;"⟩ ∈ wsA := wa_in (List.mem_append_right _ (List.mem_append_right _ (List.mem_append_left _ (List.mem_of_getElem? (i := 29) rfl)))) rfl
theorem mw214 : Cond.selects "[I" ⟨"[I", "clone", "()Ljava/lang/Object;"⟩ ⟨"java/lang/Object", "clone", "()Ljava/lang/Object;"⟩ ∈ wsA := wa_in (List.mem_append_right _ (List.mem_append_right _ (List.mem_append_left _ (List.mem_of_getElem? (i := 30) rfl)))) rfl
theorem mw215 : Cond.classLink RJ7 317 "[I" ∈ wsA := wa_in (List.mem_append_right _ (List.mem_append_right _ (List.mem_append_left _ (List.mem_of_getElem? (i := 32) rfl)))) rfl
theorem mw216 : Cond.methodLink RJ7 304 Lib.Math.min.name ∈ wsA := wa_in (List.mem_append_right _ (List.mem_append_right _ (List.mem_append_left _ (List.mem_of_getElem? (i := 33) rfl)))) rfl
theorem mw217 : Cond.static Lib.Math.min.name ∈ wsA := wa_in (List.mem_append_right _ (List.mem_append_right _ (List.mem_append_left _ (List.mem_of_getElem? (i := 34) rfl)))) rfl
theorem mw218 : Cond.initialized "java/lang/Math" ∈ wsA := wa_in (List.mem_append_right _ (List.mem_append_left _ (List.mem_of_getElem? (i := 8) rfl))) rfl
theorem mw219 : Cond.code Lib.Math.min.name Lib.Math.min.code 2 (some .int) ∈ wsA := wa_in (List.mem_append_right _ (List.mem_append_right _ (List.mem_append_left _ (List.mem_of_getElem? (i := 35) rfl)))) rfl
theorem mw220 : Cond.methodLink RJ7 150 arraycopyName ∈ wsA := wa_in (List.mem_append_right _ (List.mem_append_right _ (List.mem_append_left _ (List.mem_of_getElem? (i := 36) rfl)))) rfl
theorem mw221 : Cond.methodLink RX1 80 yX1_makeOwn ∈ wsA := wa_in (List.mem_append_right _ (List.mem_append_right _ (List.mem_append_left _ (List.mem_of_getElem? (i := 40) rfl)))) rfl
theorem mw222 : Cond.instanceMethod yX1_makeOwn ∈ wsA := wa_in (List.mem_append_right _ (List.mem_append_right _ (List.mem_append_left _ (List.mem_of_getElem? (i := 42) rfl)))) rfl
theorem mw223 : Cond.selects RX1 yX1_makeOwn yX1_makeOwn ∈ wsA := wa_in (List.mem_append_left _ (List.mem_of_getElem? (i := 7) rfl)) rfl
theorem mw224 : Cond.code yX1_makeOwn cX1_makeOwn 7 (some .int) ∈ wsA := wa_in (List.mem_append_right _ (List.mem_append_right _ (List.mem_append_left _ (List.mem_of_getElem? (i := 43) rfl)))) rfl
theorem mw225 : Cond.methodLink RX1 110 yX1_takeSheet ∈ wsA := wa_in (List.mem_append_right _ (List.mem_append_right _ (List.mem_append_left _ (List.mem_of_getElem? (i := 44) rfl)))) rfl
theorem mw226 : Cond.instanceMethod yX1_takeSheet ∈ wsA := wa_in (List.mem_append_right _ (List.mem_append_right _ (List.mem_append_left _ (List.mem_of_getElem? (i := 46) rfl)))) rfl
theorem mw227 : Cond.selects RX1 yX1_takeSheet yX1_takeSheet ∈ wsA := wa_in (List.mem_append_left _ (List.mem_of_getElem? (i := 8) rfl)) rfl
theorem mw228 : Cond.code yX1_takeSheet cX1_takeSheet 3 (some .int) ∈ wsA := wa_in (List.mem_append_right _ (List.mem_append_right _ (List.mem_append_left _ (List.mem_of_getElem? (i := 47) rfl)))) rfl
theorem mw229 : Cond.constant RX1 117 (32832) ∈ wsA := wa_in (List.mem_append_right _ (List.mem_append_right _ (List.mem_append_left _ (List.mem_of_getElem? (i := 48) rfl)))) rfl
theorem mw230 : Cond.methodLink RX1 118 Lib.Math.min.name ∈ wsA := wa_in (List.mem_append_right _ (List.mem_append_right _ (List.mem_append_left _ (List.mem_of_getElem? (i := 49) rfl)))) rfl
theorem mw231 : Cond.methodLink RX1 124 Lib.Math.max.name ∈ wsA := wa_in (List.mem_append_right _ (List.mem_append_right _ (List.mem_append_left _ (List.mem_of_getElem? (i := 50) rfl)))) rfl
theorem mw232 : Cond.static Lib.Math.max.name ∈ wsA := wa_in (List.mem_append_right _ (List.mem_append_right _ (List.mem_append_left _ (List.mem_of_getElem? (i := 51) rfl)))) rfl
theorem mw233 : Cond.code Lib.Math.max.name Lib.Math.max.code 2 (some .int) ∈ wsA := wa_in (List.mem_append_right _ (List.mem_append_right _ (List.mem_append_left _ (List.mem_of_getElem? (i := 52) rfl)))) rfl
theorem mw234 : Cond.methodLink RL 27 yX5_poke ∈ wsA := wa_in (List.mem_append_right _ (List.mem_append_right _ (List.mem_append_right _ (List.mem_append_left _ (List.mem_of_getElem? (i := 174) rfl))))) rfl
theorem mw235 : Cond.instanceMethod yX5_poke ∈ wsA := wa_in (List.mem_append_right _ (List.mem_append_right _ (List.mem_append_right _ (List.mem_append_left _ (List.mem_of_getElem? (i := 175) rfl))))) rfl
theorem mw236 : Cond.selects RX5 yX5_poke yX5_poke ∈ wsA := wa_in (List.mem_append_right _ (List.mem_append_right _ (List.mem_append_right _ (List.mem_append_left _ (List.mem_of_getElem? (i := 176) rfl))))) rfl
theorem mw237 : Cond.code yX5_poke cX5_poke 5 (some .int) ∈ wsA := wa_in (List.mem_append_right _ (List.mem_append_right _ (List.mem_append_right _ (List.mem_append_left _ (List.mem_of_getElem? (i := 177) rfl))))) rfl
theorem mw238 : Cond.fieldLink RX5 46 "GuestHouseModel$Bare" "state" "I" ∈ wsA := wa_in (List.mem_append_right _ (List.mem_append_right _ (List.mem_append_right _ (List.mem_append_left _ (List.mem_of_getElem? (i := 84) rfl))))) rfl
theorem mw239 : Cond.fieldLink RX5 53 "GuestHouseModel$Bare" "memory" "[I" ∈ wsA := wa_in (List.mem_append_right _ (List.mem_append_right _ (List.mem_append_right _ (List.mem_append_left _ (List.mem_of_getElem? (i := 64) rfl))))) rfl
theorem mw240 : Cond.methodLink RX5 42 yX5_of ∈ wsA := wa_in (List.mem_append_right _ (List.mem_append_right _ (List.mem_append_right _ (List.mem_append_left _ (List.mem_of_getElem? (i := 178) rfl))))) rfl
theorem mw241 : Cond.instanceMethod yX5_of ∈ wsA := wa_in (List.mem_append_right _ (List.mem_append_right _ (List.mem_append_right _ (List.mem_append_left _ (List.mem_of_getElem? (i := 180) rfl))))) rfl
theorem mw242 : Cond.selects RX5 yX5_of yX5_of ∈ wsA := wa_in (List.mem_append_left _ (List.mem_of_getElem? (i := 29) rfl)) rfl
theorem mw243 : Cond.code yX5_of cX5_of 2 (some (.object "GuestHouseModel$Bare")) ∈ wsA := wa_in (List.mem_append_right _ (List.mem_append_right _ (List.mem_append_right _ (List.mem_append_left _ (List.mem_of_getElem? (i := 181) rfl))))) rfl
theorem mw244 : Cond.methodLink RX5 49 yX4_isMemory ∈ wsA := wa_in (List.mem_append_right _ (List.mem_append_right _ (List.mem_append_right _ (List.mem_append_left _ (List.mem_of_getElem? (i := 182) rfl))))) rfl
theorem mw245 : Cond.instanceMethod yX4_isMemory ∈ wsA := wa_in (List.mem_append_right _ (List.mem_append_right _ (List.mem_append_right _ (List.mem_append_left _ (List.mem_of_getElem? (i := 183) rfl))))) rfl
theorem mw246 : Cond.selects RX4 yX4_isMemory yX4_isMemory ∈ wsA := wa_in (List.mem_append_right _ (List.mem_append_right _ (List.mem_append_right _ (List.mem_append_left _ (List.mem_of_getElem? (i := 184) rfl))))) rfl
theorem mw247 : Cond.code yX4_isMemory cX4_isMemory 2 (some .boolean) ∈ wsA := wa_in (List.mem_append_right _ (List.mem_append_right _ (List.mem_append_right _ (List.mem_append_left _ (List.mem_of_getElem? (i := 185) rfl))))) rfl
theorem mw248 : Cond.static yX5_isBelow ∈ wsA := wa_in (List.mem_append_right _ (List.mem_append_right _ (List.mem_append_right _ (List.mem_append_left _ (List.mem_of_getElem? (i := 187) rfl))))) rfl
theorem mw249 : Cond.code yX5_isBelow cX5_isBelow 2 (some .boolean) ∈ wsA := wa_in (List.mem_append_right _ (List.mem_append_right _ (List.mem_append_right _ (List.mem_append_left _ (List.mem_of_getElem? (i := 188) rfl))))) rfl
theorem mw250 : Cond.constant RX5 1 (-2147483648) ∈ wsA := wa_in (List.mem_append_right _ (List.mem_append_right _ (List.mem_append_right _ (List.mem_append_left _ (List.mem_of_getElem? (i := 189) rfl))))) rfl
theorem mw251 : Cond.methodLink RL 28 yX3_pokeDisk ∈ wsA := wa_in (List.mem_append_right _ (List.mem_append_right _ (List.mem_append_left _ (List.mem_of_getElem? (i := 53) rfl)))) rfl
theorem mw252 : Cond.instanceMethod yX3_pokeDisk ∈ wsA := wa_in (List.mem_append_right _ (List.mem_append_right _ (List.mem_append_left _ (List.mem_of_getElem? (i := 54) rfl)))) rfl
theorem mw253 : Cond.selects RX3 yX3_pokeDisk yX3_pokeDisk ∈ wsA := wa_in (List.mem_append_right _ (List.mem_append_right _ (List.mem_append_left _ (List.mem_of_getElem? (i := 55) rfl)))) rfl
theorem mw254 : Cond.code yX3_pokeDisk cX3_pokeDisk 5 (some .int) ∈ wsA := wa_in (List.mem_append_right _ (List.mem_append_right _ (List.mem_append_left _ (List.mem_of_getElem? (i := 56) rfl)))) rfl
theorem mw255 : Cond.methodLink RL 31 yX5_pokeDisk ∈ wsA := wa_in (List.mem_append_right _ (List.mem_append_right _ (List.mem_append_right _ (List.mem_append_left _ (List.mem_of_getElem? (i := 190) rfl))))) rfl
theorem mw256 : Cond.instanceMethod yX5_pokeDisk ∈ wsA := wa_in (List.mem_append_right _ (List.mem_append_right _ (List.mem_append_right _ (List.mem_append_left _ (List.mem_of_getElem? (i := 191) rfl))))) rfl
theorem mw257 : Cond.selects RX5 yX5_pokeDisk yX5_pokeDisk ∈ wsA := wa_in (List.mem_append_right _ (List.mem_append_right _ (List.mem_append_right _ (List.mem_append_left _ (List.mem_of_getElem? (i := 192) rfl))))) rfl
theorem mw258 : Cond.code yX5_pokeDisk cX5_pokeDisk 5 (some .int) ∈ wsA := wa_in (List.mem_append_right _ (List.mem_append_right _ (List.mem_append_right _ (List.mem_append_left _ (List.mem_of_getElem? (i := 193) rfl))))) rfl
theorem mw259 : Cond.fieldLink RX5 57 "GuestHouseModel$Bare" "disk" "[I" ∈ wsA := wa_in (List.mem_append_right _ (List.mem_append_right _ (List.mem_append_right _ (List.mem_append_left _ (List.mem_of_getElem? (i := 66) rfl))))) rfl
theorem mw260 : Cond.methodLink RL 32 yX3_start ∈ wsA := wa_in (List.mem_append_right _ (List.mem_append_right _ (List.mem_append_left _ (List.mem_of_getElem? (i := 57) rfl)))) rfl
theorem mw261 : Cond.instanceMethod yX3_start ∈ wsA := wa_in (List.mem_append_right _ (List.mem_append_right _ (List.mem_append_left _ (List.mem_of_getElem? (i := 58) rfl)))) rfl
theorem mw262 : Cond.selects RX3 yX3_start yX3_start ∈ wsA := wa_in (List.mem_append_right _ (List.mem_append_right _ (List.mem_append_left _ (List.mem_of_getElem? (i := 59) rfl)))) rfl
theorem mw263 : Cond.code yX3_start cX3_start 4 (some .int) ∈ wsA := wa_in (List.mem_append_right _ (List.mem_append_right _ (List.mem_append_left _ (List.mem_of_getElem? (i := 60) rfl)))) rfl
theorem mw264 : Cond.methodLink RX3 70 yX0_reset ∈ wsA := wa_in (List.mem_append_right _ (List.mem_append_right _ (List.mem_append_left _ (List.mem_of_getElem? (i := 61) rfl)))) rfl
theorem mw265 : Cond.methodLink RL 35 yX5_start ∈ wsA := wa_in (List.mem_append_right _ (List.mem_append_right _ (List.mem_append_right _ (List.mem_append_left _ (List.mem_of_getElem? (i := 194) rfl))))) rfl
theorem mw266 : Cond.instanceMethod yX5_start ∈ wsA := wa_in (List.mem_append_right _ (List.mem_append_right _ (List.mem_append_right _ (List.mem_append_left _ (List.mem_of_getElem? (i := 195) rfl))))) rfl
theorem mw267 : Cond.selects RX5 yX5_start yX5_start ∈ wsA := wa_in (List.mem_append_right _ (List.mem_append_right _ (List.mem_append_right _ (List.mem_append_left _ (List.mem_of_getElem? (i := 196) rfl))))) rfl
theorem mw268 : Cond.code yX5_start cX5_start 4 (some .int) ∈ wsA := wa_in (List.mem_append_right _ (List.mem_append_right _ (List.mem_append_right _ (List.mem_append_left _ (List.mem_of_getElem? (i := 197) rfl))))) rfl
theorem mw269 : Cond.methodLink RX5 60 yX4_start ∈ wsA := wa_in (List.mem_append_right _ (List.mem_append_right _ (List.mem_append_right _ (List.mem_append_left _ (List.mem_of_getElem? (i := 198) rfl))))) rfl
theorem mw270 : Cond.methodLink RL 36 yX3_stop ∈ wsA := wa_in (List.mem_append_right _ (List.mem_append_right _ (List.mem_append_left _ (List.mem_of_getElem? (i := 62) rfl)))) rfl
theorem mw271 : Cond.instanceMethod yX3_stop ∈ wsA := wa_in (List.mem_append_right _ (List.mem_append_right _ (List.mem_append_left _ (List.mem_of_getElem? (i := 63) rfl)))) rfl
theorem mw272 : Cond.selects RX3 yX3_stop yX3_stop ∈ wsA := wa_in (List.mem_append_right _ (List.mem_append_right _ (List.mem_append_left _ (List.mem_of_getElem? (i := 64) rfl)))) rfl
theorem mw273 : Cond.code yX3_stop cX3_stop 3 (some .int) ∈ wsA := wa_in (List.mem_append_right _ (List.mem_append_right _ (List.mem_append_left _ (List.mem_of_getElem? (i := 65) rfl)))) rfl
theorem mw274 : Cond.methodLink RL 39 yX5_stop ∈ wsA := wa_in (List.mem_append_right _ (List.mem_append_right _ (List.mem_append_right _ (List.mem_append_left _ (List.mem_of_getElem? (i := 199) rfl))))) rfl
theorem mw275 : Cond.instanceMethod yX5_stop ∈ wsA := wa_in (List.mem_append_right _ (List.mem_append_right _ (List.mem_append_right _ (List.mem_append_left _ (List.mem_of_getElem? (i := 200) rfl))))) rfl
theorem mw276 : Cond.selects RX5 yX5_stop yX5_stop ∈ wsA := wa_in (List.mem_append_right _ (List.mem_append_right _ (List.mem_append_right _ (List.mem_append_left _ (List.mem_of_getElem? (i := 201) rfl))))) rfl
theorem mw277 : Cond.code yX5_stop cX5_stop 2 (some .int) ∈ wsA := wa_in (List.mem_append_right _ (List.mem_append_right _ (List.mem_append_right _ (List.mem_append_left _ (List.mem_of_getElem? (i := 202) rfl))))) rfl
theorem mw278 : Cond.methodLink RL 40 yX3_input ∈ wsA := wa_in (List.mem_append_right _ (List.mem_append_right _ (List.mem_append_left _ (List.mem_of_getElem? (i := 66) rfl)))) rfl
theorem mw279 : Cond.instanceMethod yX3_input ∈ wsA := wa_in (List.mem_append_right _ (List.mem_append_right _ (List.mem_append_left _ (List.mem_of_getElem? (i := 67) rfl)))) rfl
theorem mw280 : Cond.selects RX3 yX3_input yX3_input ∈ wsA := wa_in (List.mem_append_right _ (List.mem_append_right _ (List.mem_append_left _ (List.mem_of_getElem? (i := 68) rfl)))) rfl
theorem mw281 : Cond.code yX3_input cX3_input 4 (some .int) ∈ wsA := wa_in (List.mem_append_right _ (List.mem_append_right _ (List.mem_append_left _ (List.mem_of_getElem? (i := 69) rfl)))) rfl
theorem mw282 : Cond.methodLink RX3 79 yX0_arrive ∈ wsA := wa_in (List.mem_append_right _ (List.mem_append_right _ (List.mem_append_left _ (List.mem_of_getElem? (i := 70) rfl)))) rfl
theorem mw283 : Cond.instanceMethod yX0_arrive ∈ wsA := wa_in (List.mem_append_right _ (List.mem_append_right _ (List.mem_append_left _ (List.mem_of_getElem? (i := 71) rfl)))) rfl
theorem mw284 : Cond.selects RX0 yX0_arrive yX0_arrive ∈ wsA := wa_in (List.mem_append_right _ (List.mem_append_right _ (List.mem_append_left _ (List.mem_of_getElem? (i := 72) rfl)))) rfl
theorem mw285 : Cond.code yX0_arrive cX0_arrive 2 (some .boolean) ∈ wsA := wa_in (List.mem_append_right _ (List.mem_append_right _ (List.mem_append_left _ (List.mem_of_getElem? (i := 73) rfl)))) rfl
theorem mw286 : Cond.methodLink RL 43 yX5_input ∈ wsA := wa_in (List.mem_append_right _ (List.mem_append_right _ (List.mem_append_right _ (List.mem_append_left _ (List.mem_of_getElem? (i := 203) rfl))))) rfl
theorem mw287 : Cond.instanceMethod yX5_input ∈ wsA := wa_in (List.mem_append_right _ (List.mem_append_right _ (List.mem_append_right _ (List.mem_append_left _ (List.mem_of_getElem? (i := 204) rfl))))) rfl
theorem mw288 : Cond.selects RX5 yX5_input yX5_input ∈ wsA := wa_in (List.mem_append_right _ (List.mem_append_right _ (List.mem_append_right _ (List.mem_append_left _ (List.mem_of_getElem? (i := 205) rfl))))) rfl
theorem mw289 : Cond.code yX5_input cX5_input 4 (some .int) ∈ wsA := wa_in (List.mem_append_right _ (List.mem_append_right _ (List.mem_append_right _ (List.mem_append_left _ (List.mem_of_getElem? (i := 206) rfl))))) rfl
theorem mw290 : Cond.fieldLink RX5 63 "GuestHouseModel$Bare" "ins" "I" ∈ wsA := wa_in (List.mem_append_right _ (List.mem_append_right _ (List.mem_append_right _ (List.mem_append_left _ (List.mem_of_getElem? (i := 88) rfl))))) rfl
theorem mw291 : Cond.fieldLink RX5 66 "GuestHouseModel$Bare" "in" "[I" ∈ wsA := wa_in (List.mem_append_right _ (List.mem_append_right _ (List.mem_append_right _ (List.mem_append_left _ (List.mem_of_getElem? (i := 76) rfl))))) rfl
theorem mw292 : Cond.methodLink RL 44 yX3_copy ∈ wsA := wa_in (List.mem_append_right _ (List.mem_append_right _ (List.mem_append_left _ (List.mem_of_getElem? (i := 74) rfl)))) rfl
theorem mw293 : Cond.instanceMethod yX3_copy ∈ wsA := wa_in (List.mem_append_right _ (List.mem_append_right _ (List.mem_append_left _ (List.mem_of_getElem? (i := 75) rfl)))) rfl
theorem mw294 : Cond.selects RX3 yX3_copy yX3_copy ∈ wsA := wa_in (List.mem_append_right _ (List.mem_append_right _ (List.mem_append_left _ (List.mem_of_getElem? (i := 76) rfl)))) rfl
theorem mw295 : Cond.code yX3_copy cX3_copy 5 (some .int) ∈ wsA := wa_in (List.mem_append_right _ (List.mem_append_right _ (List.mem_append_left _ (List.mem_of_getElem? (i := 77) rfl)))) rfl
theorem mw296 : Cond.methodLink RX3 82 yX0_become ∈ wsA := wa_in (List.mem_append_right _ (List.mem_append_right _ (List.mem_append_left _ (List.mem_of_getElem? (i := 78) rfl)))) rfl
theorem mw297 : Cond.instanceMethod yX0_become ∈ wsA := wa_in (List.mem_append_right _ (List.mem_append_right _ (List.mem_append_left _ (List.mem_of_getElem? (i := 79) rfl)))) rfl
theorem mw298 : Cond.selects RX0 yX0_become yX0_become ∈ wsA := wa_in (List.mem_append_right _ (List.mem_append_right _ (List.mem_append_left _ (List.mem_of_getElem? (i := 80) rfl)))) rfl
theorem mw299 : Cond.code yX0_become cX0_become 2 none ∈ wsA := wa_in (List.mem_append_right _ (List.mem_append_right _ (List.mem_append_left _ (List.mem_of_getElem? (i := 81) rfl)))) rfl
theorem mw300 : Cond.methodLink RX0 77 arraycopyName ∈ wsA := wa_in (List.mem_append_right _ (List.mem_append_right _ (List.mem_append_left _ (List.mem_of_getElem? (i := 82) rfl)))) rfl
theorem mw301 : Cond.methodLink RX3 85 yX1_shareSheets ∈ wsA := wa_in (List.mem_append_right _ (List.mem_append_right _ (List.mem_append_left _ (List.mem_of_getElem? (i := 83) rfl)))) rfl
theorem mw302 : Cond.instanceMethod yX1_shareSheets ∈ wsA := wa_in (List.mem_append_right _ (List.mem_append_right _ (List.mem_append_left _ (List.mem_of_getElem? (i := 84) rfl)))) rfl
theorem mw303 : Cond.selects RX1 yX1_shareSheets yX1_shareSheets ∈ wsA := wa_in (List.mem_append_right _ (List.mem_append_right _ (List.mem_append_left _ (List.mem_of_getElem? (i := 85) rfl)))) rfl
theorem mw304 : Cond.code yX1_shareSheets cX1_shareSheets 5 none ∈ wsA := wa_in (List.mem_append_right _ (List.mem_append_right _ (List.mem_append_left _ (List.mem_of_getElem? (i := 86) rfl)))) rfl
theorem mw305 : Cond.methodLink RL 47 yX5_copy ∈ wsA := wa_in (List.mem_append_right _ (List.mem_append_right _ (List.mem_append_right _ (List.mem_append_left _ (List.mem_of_getElem? (i := 207) rfl))))) rfl
theorem mw306 : Cond.instanceMethod yX5_copy ∈ wsA := wa_in (List.mem_append_right _ (List.mem_append_right _ (List.mem_append_right _ (List.mem_append_left _ (List.mem_of_getElem? (i := 208) rfl))))) rfl
theorem mw307 : Cond.selects RX5 yX5_copy yX5_copy ∈ wsA := wa_in (List.mem_append_right _ (List.mem_append_right _ (List.mem_append_right _ (List.mem_append_left _ (List.mem_of_getElem? (i := 209) rfl))))) rfl
theorem mw308 : Cond.code yX5_copy cX5_copy 4 (some .int) ∈ wsA := wa_in (List.mem_append_right _ (List.mem_append_right _ (List.mem_append_right _ (List.mem_append_left _ (List.mem_of_getElem? (i := 210) rfl))))) rfl
theorem mw309 : Cond.methodLink RX5 69 yX4_copy ∈ wsA := wa_in (List.mem_append_right _ (List.mem_append_right _ (List.mem_append_right _ (List.mem_append_left _ (List.mem_of_getElem? (i := 211) rfl))))) rfl
theorem mw310 : Cond.instanceMethod yX4_copy ∈ wsA := wa_in (List.mem_append_right _ (List.mem_append_right _ (List.mem_append_right _ (List.mem_append_left _ (List.mem_of_getElem? (i := 212) rfl))))) rfl
theorem mw311 : Cond.selects RX4 yX4_copy yX4_copy ∈ wsA := wa_in (List.mem_append_right _ (List.mem_append_right _ (List.mem_append_right _ (List.mem_append_left _ (List.mem_of_getElem? (i := 213) rfl))))) rfl
theorem mw312 : Cond.code yX4_copy cX4_copy 3 none ∈ wsA := wa_in (List.mem_append_right _ (List.mem_append_right _ (List.mem_append_right _ (List.mem_append_left _ (List.mem_of_getElem? (i := 214) rfl))))) rfl
theorem mw313 : Cond.methodLink RL 48 yX3_drop ∈ wsA := wa_in (List.mem_append_right _ (List.mem_append_right _ (List.mem_append_left _ (List.mem_of_getElem? (i := 87) rfl)))) rfl
theorem mw314 : Cond.instanceMethod yX3_drop ∈ wsA := wa_in (List.mem_append_right _ (List.mem_append_right _ (List.mem_append_left _ (List.mem_of_getElem? (i := 88) rfl)))) rfl
theorem mw315 : Cond.selects RX3 yX3_drop yX3_drop ∈ wsA := wa_in (List.mem_append_right _ (List.mem_append_right _ (List.mem_append_left _ (List.mem_of_getElem? (i := 89) rfl)))) rfl
theorem mw316 : Cond.code yX3_drop cX3_drop 3 (some .int) ∈ wsA := wa_in (List.mem_append_right _ (List.mem_append_right _ (List.mem_append_left _ (List.mem_of_getElem? (i := 90) rfl)))) rfl
theorem mw317 : Cond.methodLink RX3 89 yX1_release ∈ wsA := wa_in (List.mem_append_right _ (List.mem_append_right _ (List.mem_append_left _ (List.mem_of_getElem? (i := 91) rfl)))) rfl
theorem mw318 : Cond.instanceMethod yX1_release ∈ wsA := wa_in (List.mem_append_right _ (List.mem_append_right _ (List.mem_append_left _ (List.mem_of_getElem? (i := 92) rfl)))) rfl
theorem mw319 : Cond.selects RX1 yX1_release yX1_release ∈ wsA := wa_in (List.mem_append_right _ (List.mem_append_right _ (List.mem_append_left _ (List.mem_of_getElem? (i := 93) rfl)))) rfl
theorem mw320 : Cond.code yX1_release cX1_release 4 none ∈ wsA := wa_in (List.mem_append_right _ (List.mem_append_right _ (List.mem_append_left _ (List.mem_of_getElem? (i := 94) rfl)))) rfl
theorem mw321 : Cond.methodLink RX1 69 yX1_freeSheet ∈ wsA := wa_in (List.mem_append_right _ (List.mem_append_right _ (List.mem_append_left _ (List.mem_of_getElem? (i := 95) rfl)))) rfl
theorem mw322 : Cond.instanceMethod yX1_freeSheet ∈ wsA := wa_in (List.mem_append_right _ (List.mem_append_right _ (List.mem_append_left _ (List.mem_of_getElem? (i := 97) rfl)))) rfl
theorem mw323 : Cond.selects RX1 yX1_freeSheet yX1_freeSheet ∈ wsA := wa_in (List.mem_append_left _ (List.mem_of_getElem? (i := 9) rfl)) rfl
theorem mw324 : Cond.code yX1_freeSheet cX1_freeSheet 3 none ∈ wsA := wa_in (List.mem_append_right _ (List.mem_append_right _ (List.mem_append_left _ (List.mem_of_getElem? (i := 98) rfl)))) rfl
theorem mw325 : Cond.methodLink RL 51 yX5_drop ∈ wsA := wa_in (List.mem_append_right _ (List.mem_append_right _ (List.mem_append_right _ (List.mem_append_left _ (List.mem_of_getElem? (i := 215) rfl))))) rfl
theorem mw326 : Cond.instanceMethod yX5_drop ∈ wsA := wa_in (List.mem_append_right _ (List.mem_append_right _ (List.mem_append_right _ (List.mem_append_left _ (List.mem_of_getElem? (i := 216) rfl))))) rfl
theorem mw327 : Cond.selects RX5 yX5_drop yX5_drop ∈ wsA := wa_in (List.mem_append_right _ (List.mem_append_right _ (List.mem_append_right _ (List.mem_append_left _ (List.mem_of_getElem? (i := 217) rfl))))) rfl
theorem mw328 : Cond.code yX5_drop cX5_drop 2 (some .int) ∈ wsA := wa_in (List.mem_append_right _ (List.mem_append_right _ (List.mem_append_right _ (List.mem_append_left _ (List.mem_of_getElem? (i := 218) rfl))))) rfl
theorem mw329 : Cond.methodLink RL 52 yX3_run ∈ wsA := wa_in (List.mem_append_right _ (List.mem_append_right _ (List.mem_append_left _ (List.mem_of_getElem? (i := 99) rfl)))) rfl
theorem mw330 : Cond.instanceMethod yX3_run ∈ wsA := wa_in (List.mem_append_right _ (List.mem_append_right _ (List.mem_append_left _ (List.mem_of_getElem? (i := 100) rfl)))) rfl
theorem mw331 : Cond.selects RX3 yX3_run yX3_run ∈ wsA := wa_in (List.mem_append_right _ (List.mem_append_right _ (List.mem_append_left _ (List.mem_of_getElem? (i := 101) rfl)))) rfl
theorem mw332 : Cond.code yX3_run cX3_run 4 (some .int) ∈ wsA := wa_in (List.mem_append_right _ (List.mem_append_right _ (List.mem_append_left _ (List.mem_of_getElem? (i := 102) rfl)))) rfl
theorem mw333 : Cond.methodLink RX3 96 yX3_nextTurn ∈ wsA := wa_in (List.mem_append_right _ (List.mem_append_right _ (List.mem_append_left _ (List.mem_of_getElem? (i := 103) rfl)))) rfl
theorem mw334 : Cond.instanceMethod yX3_nextTurn ∈ wsA := wa_in (List.mem_append_right _ (List.mem_append_right _ (List.mem_append_left _ (List.mem_of_getElem? (i := 105) rfl)))) rfl
theorem mw335 : Cond.selects RX3 yX3_nextTurn yX3_nextTurn ∈ wsA := wa_in (List.mem_append_left _ (List.mem_of_getElem? (i := 10) rfl)) rfl
theorem mw336 : Cond.code yX3_nextTurn cX3_nextTurn 4 (some (.object "GuestHouse$Guest")) ∈ wsA := wa_in (List.mem_append_right _ (List.mem_append_right _ (List.mem_append_left _ (List.mem_of_getElem? (i := 106) rfl)))) rfl
theorem mw337 : Cond.methodLink RX3 100 yX2_step ∈ wsA := wa_in (List.mem_append_right _ (List.mem_append_right _ (List.mem_append_left _ (List.mem_of_getElem? (i := 107) rfl)))) rfl
theorem mw338 : Cond.instanceMethod yX2_step ∈ wsA := wa_in (List.mem_append_right _ (List.mem_append_right _ (List.mem_append_left _ (List.mem_of_getElem? (i := 108) rfl)))) rfl
theorem mw339 : Cond.selects RX2 yX2_step yX2_step ∈ wsA := wa_in (List.mem_append_right _ (List.mem_append_right _ (List.mem_append_left _ (List.mem_of_getElem? (i := 109) rfl)))) rfl
theorem mw340 : Cond.code yX2_step cX2_step 5 none ∈ wsA := wa_in (List.mem_append_right _ (List.mem_append_right _ (List.mem_append_left _ (List.mem_of_getElem? (i := 110) rfl)))) rfl
theorem mw341 : Cond.fieldLink RX2 19 "GuestHouse$Processor" "trap" "I" ∈ wsA := wa_in (List.mem_append_right _ (List.mem_append_left _ (List.mem_of_getElem? (i := 73) rfl))) rfl
theorem mw342 : Cond.fieldLink RX2 23 "GuestHouse$Processor" "bad" "I" ∈ wsA := wa_in (List.mem_append_right _ (List.mem_append_left _ (List.mem_of_getElem? (i := 74) rfl))) rfl
theorem mw343 : Cond.fieldLink RX2 31 "GuestHouse$Processor" "next" "I" ∈ wsA := wa_in (List.mem_append_right _ (List.mem_append_left _ (List.mem_of_getElem? (i := 75) rfl))) rfl
theorem mw344 : Cond.fieldLink RX2 38 "GuestHouse$Processor" "count" "I" ∈ wsA := wa_in (List.mem_append_right _ (List.mem_append_left _ (List.mem_of_getElem? (i := 76) rfl))) rfl
theorem mw345 : Cond.methodLink RX2 15 yX2_lineTrap ∈ wsA := wa_in (List.mem_append_right _ (List.mem_append_right _ (List.mem_append_left _ (List.mem_of_getElem? (i := 111) rfl)))) rfl
theorem mw346 : Cond.static yX2_lineTrap ∈ wsA := wa_in (List.mem_append_right _ (List.mem_append_right _ (List.mem_append_left _ (List.mem_of_getElem? (i := 112) rfl)))) rfl
theorem mw347 : Cond.code yX2_lineTrap cX2_lineTrap 2 (some .int) ∈ wsA := wa_in (List.mem_append_right _ (List.mem_append_right _ (List.mem_append_left _ (List.mem_of_getElem? (i := 113) rfl)))) rfl
theorem mw348 : Cond.methodLink RX2 85 yX0_timerIsUp ∈ wsA := wa_in (List.mem_append_right _ (List.mem_append_right _ (List.mem_append_left _ (List.mem_of_getElem? (i := 114) rfl)))) rfl
theorem mw349 : Cond.instanceMethod yX0_timerIsUp ∈ wsA := wa_in (List.mem_append_right _ (List.mem_append_right _ (List.mem_append_left _ (List.mem_of_getElem? (i := 115) rfl)))) rfl
theorem mw350 : Cond.selects RX0 yX0_timerIsUp yX0_timerIsUp ∈ wsA := wa_in (List.mem_append_right _ (List.mem_append_right _ (List.mem_append_left _ (List.mem_of_getElem? (i := 116) rfl)))) rfl
theorem mw351 : Cond.code yX0_timerIsUp cX0_timerIsUp 1 (some .boolean) ∈ wsA := wa_in (List.mem_append_right _ (List.mem_append_right _ (List.mem_append_left _ (List.mem_of_getElem? (i := 117) rfl)))) rfl
theorem mw352 : Cond.methodLink RX2 41 yX2_locate ∈ wsA := wa_in (List.mem_append_right _ (List.mem_append_right _ (List.mem_append_left _ (List.mem_of_getElem? (i := 118) rfl)))) rfl
theorem mw353 : Cond.instanceMethod yX2_locate ∈ wsA := wa_in (List.mem_append_right _ (List.mem_append_right _ (List.mem_append_left _ (List.mem_of_getElem? (i := 120) rfl)))) rfl
theorem mw354 : Cond.selects RX2 yX2_locate yX2_locate ∈ wsA := wa_in (List.mem_append_left _ (List.mem_of_getElem? (i := 11) rfl)) rfl
theorem mw355 : Cond.code yX2_locate cX2_locate 10 (some .int) ∈ wsA := wa_in (List.mem_append_right _ (List.mem_append_right _ (List.mem_append_left _ (List.mem_of_getElem? (i := 121) rfl)))) rfl
theorem mw356 : Cond.methodLink RX2 92 yX0_hasWord ∈ wsA := wa_in (List.mem_append_right _ (List.mem_append_right _ (List.mem_append_left _ (List.mem_of_getElem? (i := 122) rfl)))) rfl
theorem mw357 : Cond.methodLink RX2 68 yX2_refuse ∈ wsA := wa_in (List.mem_append_right _ (List.mem_append_right _ (List.mem_append_left _ (List.mem_of_getElem? (i := 123) rfl)))) rfl
theorem mw358 : Cond.instanceMethod yX2_refuse ∈ wsA := wa_in (List.mem_append_right _ (List.mem_append_right _ (List.mem_append_left _ (List.mem_of_getElem? (i := 125) rfl)))) rfl
theorem mw359 : Cond.selects RX2 yX2_refuse yX2_refuse ∈ wsA := wa_in (List.mem_append_left _ (List.mem_of_getElem? (i := 12) rfl)) rfl
theorem mw360 : Cond.code yX2_refuse cX2_refuse 3 (some .int) ∈ wsA := wa_in (List.mem_append_right _ (List.mem_append_right _ (List.mem_append_left _ (List.mem_of_getElem? (i := 126) rfl)))) rfl
theorem mw361 : Cond.methodLink RX2 45 yX1_read ∈ wsA := wa_in (List.mem_append_right _ (List.mem_append_right _ (List.mem_append_left _ (List.mem_of_getElem? (i := 127) rfl)))) rfl
theorem mw362 : Cond.instanceMethod yX1_read ∈ wsA := wa_in (List.mem_append_right _ (List.mem_append_right _ (List.mem_append_left _ (List.mem_of_getElem? (i := 128) rfl)))) rfl
theorem mw363 : Cond.selects RX1 yX1_read yX1_read ∈ wsA := wa_in (List.mem_append_right _ (List.mem_append_right _ (List.mem_append_left _ (List.mem_of_getElem? (i := 129) rfl)))) rfl
theorem mw364 : Cond.code yX1_read cX1_read 4 (some .int) ∈ wsA := wa_in (List.mem_append_right _ (List.mem_append_right _ (List.mem_append_left _ (List.mem_of_getElem? (i := 130) rfl)))) rfl
theorem mw365 : Cond.methodLink RX2 102 yX1_write ∈ wsA := wa_in (List.mem_append_right _ (List.mem_append_right _ (List.mem_append_left _ (List.mem_of_getElem? (i := 131) rfl)))) rfl
theorem mw366 : Cond.methodLink RX2 51 yX2_sum ∈ wsA := wa_in (List.mem_append_right _ (List.mem_append_right _ (List.mem_append_left _ (List.mem_of_getElem? (i := 132) rfl)))) rfl
theorem mw367 : Cond.static yX2_sum ∈ wsA := wa_in (List.mem_append_right _ (List.mem_append_right _ (List.mem_append_left _ (List.mem_of_getElem? (i := 133) rfl)))) rfl
theorem mw368 : Cond.code yX2_sum cX2_sum 4 (some .int) ∈ wsA := wa_in (List.mem_append_right _ (List.mem_append_right _ (List.mem_append_left _ (List.mem_of_getElem? (i := 134) rfl)))) rfl
theorem mw369 : Cond.methodLink RX2 105 yX2_valueA ∈ wsA := wa_in (List.mem_append_right _ (List.mem_append_right _ (List.mem_append_left _ (List.mem_of_getElem? (i := 135) rfl)))) rfl
theorem mw370 : Cond.static yX2_valueA ∈ wsA := wa_in (List.mem_append_right _ (List.mem_append_right _ (List.mem_append_left _ (List.mem_of_getElem? (i := 136) rfl)))) rfl
theorem mw371 : Cond.code yX2_valueA cX2_valueA 2 (some .int) ∈ wsA := wa_in (List.mem_append_right _ (List.mem_append_right _ (List.mem_append_left _ (List.mem_of_getElem? (i := 137) rfl)))) rfl
theorem mw372 : Cond.methodLink RX2 108 yX2_valueB ∈ wsA := wa_in (List.mem_append_right _ (List.mem_append_right _ (List.mem_append_left _ (List.mem_of_getElem? (i := 138) rfl)))) rfl
theorem mw373 : Cond.static yX2_valueB ∈ wsA := wa_in (List.mem_append_right _ (List.mem_append_right _ (List.mem_append_left _ (List.mem_of_getElem? (i := 139) rfl)))) rfl
theorem mw374 : Cond.code yX2_valueB cX2_valueB 2 (some .int) ∈ wsA := wa_in (List.mem_append_right _ (List.mem_append_right _ (List.mem_append_left _ (List.mem_of_getElem? (i := 140) rfl)))) rfl
theorem mw375 : Cond.methodLink RX2 111 yX2_number ∈ wsA := wa_in (List.mem_append_right _ (List.mem_append_right _ (List.mem_append_left _ (List.mem_of_getElem? (i := 141) rfl)))) rfl
theorem mw376 : Cond.static yX2_number ∈ wsA := wa_in (List.mem_append_right _ (List.mem_append_right _ (List.mem_append_left _ (List.mem_of_getElem? (i := 142) rfl)))) rfl
theorem mw377 : Cond.code yX2_number cX2_number 1 (some .int) ∈ wsA := wa_in (List.mem_append_right _ (List.mem_append_right _ (List.mem_append_left _ (List.mem_of_getElem? (i := 143) rfl)))) rfl
theorem mw378 : Cond.methodLink RX2 54 yX2_setD ∈ wsA := wa_in (List.mem_append_right _ (List.mem_append_right _ (List.mem_append_left _ (List.mem_of_getElem? (i := 144) rfl)))) rfl
theorem mw379 : Cond.static yX2_setD ∈ wsA := wa_in (List.mem_append_right _ (List.mem_append_right _ (List.mem_append_left _ (List.mem_of_getElem? (i := 145) rfl)))) rfl
theorem mw380 : Cond.code yX2_setD cX2_setD 3 none ∈ wsA := wa_in (List.mem_append_right _ (List.mem_append_right _ (List.mem_append_left _ (List.mem_of_getElem? (i := 146) rfl)))) rfl
theorem mw381 : Cond.methodLink RX2 58 yX2_useMemory ∈ wsA := wa_in (List.mem_append_right _ (List.mem_append_right _ (List.mem_append_left _ (List.mem_of_getElem? (i := 147) rfl)))) rfl
theorem mw382 : Cond.instanceMethod yX2_useMemory ∈ wsA := wa_in (List.mem_append_right _ (List.mem_append_right _ (List.mem_append_left _ (List.mem_of_getElem? (i := 149) rfl)))) rfl
theorem mw383 : Cond.selects RX2 yX2_useMemory yX2_useMemory ∈ wsA := wa_in (List.mem_append_left _ (List.mem_of_getElem? (i := 13) rfl)) rfl
theorem mw384 : Cond.code yX2_useMemory cX2_useMemory 6 none ∈ wsA := wa_in (List.mem_append_right _ (List.mem_append_right _ (List.mem_append_left _ (List.mem_of_getElem? (i := 150) rfl)))) rfl
theorem mw385 : Cond.methodLink RX2 62 yX2_jump ∈ wsA := wa_in (List.mem_append_right _ (List.mem_append_right _ (List.mem_append_left _ (List.mem_of_getElem? (i := 151) rfl)))) rfl
theorem mw386 : Cond.instanceMethod yX2_jump ∈ wsA := wa_in (List.mem_append_right _ (List.mem_append_right _ (List.mem_append_left _ (List.mem_of_getElem? (i := 153) rfl)))) rfl
theorem mw387 : Cond.selects RX2 yX2_jump yX2_jump ∈ wsA := wa_in (List.mem_append_left _ (List.mem_of_getElem? (i := 14) rfl)) rfl
theorem mw388 : Cond.code yX2_jump cX2_jump 6 none ∈ wsA := wa_in (List.mem_append_right _ (List.mem_append_right _ (List.mem_append_left _ (List.mem_of_getElem? (i := 154) rfl)))) rfl
theorem mw389 : Cond.methodLink RX2 65 yX2_callOrTime ∈ wsA := wa_in (List.mem_append_right _ (List.mem_append_right _ (List.mem_append_left _ (List.mem_of_getElem? (i := 155) rfl)))) rfl
theorem mw390 : Cond.instanceMethod yX2_callOrTime ∈ wsA := wa_in (List.mem_append_right _ (List.mem_append_right _ (List.mem_append_left _ (List.mem_of_getElem? (i := 157) rfl)))) rfl
theorem mw391 : Cond.selects RX2 yX2_callOrTime yX2_callOrTime ∈ wsA := wa_in (List.mem_append_left _ (List.mem_of_getElem? (i := 15) rfl)) rfl
theorem mw392 : Cond.code yX2_callOrTime cX2_callOrTime 3 none ∈ wsA := wa_in (List.mem_append_right _ (List.mem_append_right _ (List.mem_append_left _ (List.mem_of_getElem? (i := 158) rfl)))) rfl
theorem mw393 : Cond.methodLink RX2 75 yX2_supervise ∈ wsA := wa_in (List.mem_append_right _ (List.mem_append_right _ (List.mem_append_left _ (List.mem_of_getElem? (i := 159) rfl)))) rfl
theorem mw394 : Cond.instanceMethod yX2_supervise ∈ wsA := wa_in (List.mem_append_right _ (List.mem_append_right _ (List.mem_append_left _ (List.mem_of_getElem? (i := 161) rfl)))) rfl
theorem mw395 : Cond.selects RX2 yX2_supervise yX2_supervise ∈ wsA := wa_in (List.mem_append_left _ (List.mem_of_getElem? (i := 16) rfl)) rfl
theorem mw396 : Cond.code yX2_supervise cX2_supervise 4 none ∈ wsA := wa_in (List.mem_append_right _ (List.mem_append_right _ (List.mem_append_left _ (List.mem_of_getElem? (i := 162) rfl)))) rfl
theorem mw397 : Cond.methodLink RX2 115 yX2_readControl ∈ wsA := wa_in (List.mem_append_right _ (List.mem_append_right _ (List.mem_append_left _ (List.mem_of_getElem? (i := 163) rfl)))) rfl
theorem mw398 : Cond.instanceMethod yX2_readControl ∈ wsA := wa_in (List.mem_append_right _ (List.mem_append_right _ (List.mem_append_left _ (List.mem_of_getElem? (i := 165) rfl)))) rfl
theorem mw399 : Cond.selects RX2 yX2_readControl yX2_readControl ∈ wsA := wa_in (List.mem_append_left _ (List.mem_of_getElem? (i := 17) rfl)) rfl
theorem mw400 : Cond.code yX2_readControl cX2_readControl 4 none ∈ wsA := wa_in (List.mem_append_right _ (List.mem_append_right _ (List.mem_append_left _ (List.mem_of_getElem? (i := 166) rfl)))) rfl
theorem mw401 : Cond.methodLink RX2 118 yX2_writeControl ∈ wsA := wa_in (List.mem_append_right _ (List.mem_append_right _ (List.mem_append_left _ (List.mem_of_getElem? (i := 167) rfl)))) rfl
theorem mw402 : Cond.instanceMethod yX2_writeControl ∈ wsA := wa_in (List.mem_append_right _ (List.mem_append_right _ (List.mem_append_left _ (List.mem_of_getElem? (i := 169) rfl)))) rfl
theorem mw403 : Cond.selects RX2 yX2_writeControl yX2_writeControl ∈ wsA := wa_in (List.mem_append_left _ (List.mem_of_getElem? (i := 18) rfl)) rfl
theorem mw404 : Cond.code yX2_writeControl cX2_writeControl 5 none ∈ wsA := wa_in (List.mem_append_right _ (List.mem_append_right _ (List.mem_append_left _ (List.mem_of_getElem? (i := 170) rfl)))) rfl
theorem mw405 : Cond.methodLink RX2 124 yX0_emptyCache ∈ wsA := wa_in (List.mem_append_right _ (List.mem_append_right _ (List.mem_append_left _ (List.mem_of_getElem? (i := 171) rfl)))) rfl
theorem mw406 : Cond.methodLink RX2 121 yX0_leaveTrap ∈ wsA := wa_in (List.mem_append_right _ (List.mem_append_right _ (List.mem_append_left _ (List.mem_of_getElem? (i := 172) rfl)))) rfl
theorem mw407 : Cond.instanceMethod yX0_leaveTrap ∈ wsA := wa_in (List.mem_append_right _ (List.mem_append_right _ (List.mem_append_left _ (List.mem_of_getElem? (i := 173) rfl)))) rfl
theorem mw408 : Cond.selects RX0 yX0_leaveTrap yX0_leaveTrap ∈ wsA := wa_in (List.mem_append_right _ (List.mem_append_right _ (List.mem_append_left _ (List.mem_of_getElem? (i := 174) rfl)))) rfl
theorem mw409 : Cond.code yX0_leaveTrap cX0_leaveTrap 3 none ∈ wsA := wa_in (List.mem_append_right _ (List.mem_append_right _ (List.mem_append_left _ (List.mem_of_getElem? (i := 175) rfl)))) rfl
theorem mw410 : Cond.methodLink RX2 127 yX2_waitForLine ∈ wsA := wa_in (List.mem_append_right _ (List.mem_append_right _ (List.mem_append_left _ (List.mem_of_getElem? (i := 176) rfl)))) rfl
theorem mw411 : Cond.instanceMethod yX2_waitForLine ∈ wsA := wa_in (List.mem_append_right _ (List.mem_append_right _ (List.mem_append_left _ (List.mem_of_getElem? (i := 178) rfl)))) rfl
theorem mw412 : Cond.selects RX2 yX2_waitForLine yX2_waitForLine ∈ wsA := wa_in (List.mem_append_left _ (List.mem_of_getElem? (i := 19) rfl)) rfl
theorem mw413 : Cond.code yX2_waitForLine cX2_waitForLine 2 none ∈ wsA := wa_in (List.mem_append_right _ (List.mem_append_right _ (List.mem_append_left _ (List.mem_of_getElem? (i := 179) rfl)))) rfl
theorem mw414 : Cond.methodLink RX2 134 yX2_takeIn ∈ wsA := wa_in (List.mem_append_right _ (List.mem_append_right _ (List.mem_append_left _ (List.mem_of_getElem? (i := 180) rfl)))) rfl
theorem mw415 : Cond.static yX2_takeIn ∈ wsA := wa_in (List.mem_append_right _ (List.mem_append_right _ (List.mem_append_left _ (List.mem_of_getElem? (i := 181) rfl)))) rfl
theorem mw416 : Cond.code yX2_takeIn cX2_takeIn 2 (some .int) ∈ wsA := wa_in (List.mem_append_right _ (List.mem_append_right _ (List.mem_append_left _ (List.mem_of_getElem? (i := 182) rfl)))) rfl
theorem mw417 : Cond.methodLink RX2 140 yX0_takeOldest ∈ wsA := wa_in (List.mem_append_right _ (List.mem_append_right _ (List.mem_append_left _ (List.mem_of_getElem? (i := 183) rfl)))) rfl
theorem mw418 : Cond.instanceMethod yX0_takeOldest ∈ wsA := wa_in (List.mem_append_right _ (List.mem_append_right _ (List.mem_append_left _ (List.mem_of_getElem? (i := 184) rfl)))) rfl
theorem mw419 : Cond.selects RX0 yX0_takeOldest yX0_takeOldest ∈ wsA := wa_in (List.mem_append_right _ (List.mem_append_right _ (List.mem_append_left _ (List.mem_of_getElem? (i := 185) rfl)))) rfl
theorem mw420 : Cond.code yX0_takeOldest cX0_takeOldest 2 (some .int) ∈ wsA := wa_in (List.mem_append_right _ (List.mem_append_right _ (List.mem_append_left _ (List.mem_of_getElem? (i := 186) rfl)))) rfl
theorem mw421 : Cond.methodLink RX2 137 yX2_giveOut ∈ wsA := wa_in (List.mem_append_right _ (List.mem_append_right _ (List.mem_append_left _ (List.mem_of_getElem? (i := 187) rfl)))) rfl
theorem mw422 : Cond.instanceMethod yX2_giveOut ∈ wsA := wa_in (List.mem_append_right _ (List.mem_append_right _ (List.mem_append_left _ (List.mem_of_getElem? (i := 189) rfl)))) rfl
theorem mw423 : Cond.selects RX2 yX2_giveOut yX2_giveOut ∈ wsA := wa_in (List.mem_append_left _ (List.mem_of_getElem? (i := 20) rfl)) rfl
theorem mw424 : Cond.code yX2_giveOut cX2_giveOut 4 none ∈ wsA := wa_in (List.mem_append_right _ (List.mem_append_right _ (List.mem_append_left _ (List.mem_of_getElem? (i := 190) rfl)))) rfl
theorem mw425 : Cond.methodLink RX2 150 yX0_putOut ∈ wsA := wa_in (List.mem_append_right _ (List.mem_append_right _ (List.mem_append_left _ (List.mem_of_getElem? (i := 191) rfl)))) rfl
theorem mw426 : Cond.instanceMethod yX0_putOut ∈ wsA := wa_in (List.mem_append_right _ (List.mem_append_right _ (List.mem_append_left _ (List.mem_of_getElem? (i := 192) rfl)))) rfl
theorem mw427 : Cond.selects RX0 yX0_putOut yX0_putOut ∈ wsA := wa_in (List.mem_append_right _ (List.mem_append_right _ (List.mem_append_left _ (List.mem_of_getElem? (i := 193) rfl)))) rfl
theorem mw428 : Cond.code yX0_putOut cX0_putOut 2 none ∈ wsA := wa_in (List.mem_append_right _ (List.mem_append_right _ (List.mem_append_left _ (List.mem_of_getElem? (i := 194) rfl)))) rfl
theorem mw429 : Cond.methodLink RX2 154 yX1_saveFrame ∈ wsA := wa_in (List.mem_append_right _ (List.mem_append_right _ (List.mem_append_left _ (List.mem_of_getElem? (i := 195) rfl)))) rfl
theorem mw430 : Cond.instanceMethod yX1_saveFrame ∈ wsA := wa_in (List.mem_append_right _ (List.mem_append_right _ (List.mem_append_left _ (List.mem_of_getElem? (i := 196) rfl)))) rfl
theorem mw431 : Cond.selects RX1 yX1_saveFrame yX1_saveFrame ∈ wsA := wa_in (List.mem_append_right _ (List.mem_append_right _ (List.mem_append_left _ (List.mem_of_getElem? (i := 197) rfl)))) rfl
theorem mw432 : Cond.code yX1_saveFrame cX1_saveFrame 5 none ∈ wsA := wa_in (List.mem_append_right _ (List.mem_append_right _ (List.mem_append_left _ (List.mem_of_getElem? (i := 198) rfl)))) rfl
theorem mw433 : Cond.methodLink RX2 157 yX1_loadFrame ∈ wsA := wa_in (List.mem_append_right _ (List.mem_append_right _ (List.mem_append_left _ (List.mem_of_getElem? (i := 199) rfl)))) rfl
theorem mw434 : Cond.instanceMethod yX1_loadFrame ∈ wsA := wa_in (List.mem_append_right _ (List.mem_append_right _ (List.mem_append_left _ (List.mem_of_getElem? (i := 200) rfl)))) rfl
theorem mw435 : Cond.selects RX1 yX1_loadFrame yX1_loadFrame ∈ wsA := wa_in (List.mem_append_right _ (List.mem_append_right _ (List.mem_append_left _ (List.mem_of_getElem? (i := 201) rfl)))) rfl
theorem mw436 : Cond.code yX1_loadFrame cX1_loadFrame 5 none ∈ wsA := wa_in (List.mem_append_right _ (List.mem_append_right _ (List.mem_append_left _ (List.mem_of_getElem? (i := 202) rfl)))) rfl
theorem mw437 : Cond.methodLink RX2 78 yX0_enterTrap ∈ wsA := wa_in (List.mem_append_right _ (List.mem_append_right _ (List.mem_append_left _ (List.mem_of_getElem? (i := 203) rfl)))) rfl
theorem mw438 : Cond.instanceMethod yX0_enterTrap ∈ wsA := wa_in (List.mem_append_right _ (List.mem_append_right _ (List.mem_append_left _ (List.mem_of_getElem? (i := 204) rfl)))) rfl
theorem mw439 : Cond.selects RX0 yX0_enterTrap yX0_enterTrap ∈ wsA := wa_in (List.mem_append_right _ (List.mem_append_right _ (List.mem_append_left _ (List.mem_of_getElem? (i := 205) rfl)))) rfl
theorem mw440 : Cond.code yX0_enterTrap cX0_enterTrap 5 none ∈ wsA := wa_in (List.mem_append_right _ (List.mem_append_right _ (List.mem_append_left _ (List.mem_of_getElem? (i := 206) rfl)))) rfl
theorem mw441 : Cond.methodLink RL 55 yX5_run ∈ wsA := wa_in (List.mem_append_right _ (List.mem_append_right _ (List.mem_append_right _ (List.mem_append_left _ (List.mem_of_getElem? (i := 219) rfl))))) rfl
theorem mw442 : Cond.instanceMethod yX5_run ∈ wsA := wa_in (List.mem_append_right _ (List.mem_append_right _ (List.mem_append_right _ (List.mem_append_left _ (List.mem_of_getElem? (i := 220) rfl))))) rfl
theorem mw443 : Cond.selects RX5 yX5_run yX5_run ∈ wsA := wa_in (List.mem_append_right _ (List.mem_append_right _ (List.mem_append_right _ (List.mem_append_left _ (List.mem_of_getElem? (i := 221) rfl))))) rfl
theorem mw444 : Cond.code yX5_run cX5_run 3 (some .int) ∈ wsA := wa_in (List.mem_append_right _ (List.mem_append_right _ (List.mem_append_right _ (List.mem_append_left _ (List.mem_of_getElem? (i := 222) rfl))))) rfl
theorem mw445 : Cond.methodLink RX5 79 yX5_turn ∈ wsA := wa_in (List.mem_append_right _ (List.mem_append_right _ (List.mem_append_right _ (List.mem_append_left _ (List.mem_of_getElem? (i := 223) rfl))))) rfl
theorem mw446 : Cond.instanceMethod yX5_turn ∈ wsA := wa_in (List.mem_append_right _ (List.mem_append_right _ (List.mem_append_right _ (List.mem_append_left _ (List.mem_of_getElem? (i := 225) rfl))))) rfl
theorem mw447 : Cond.selects RX5 yX5_turn yX5_turn ∈ wsA := wa_in (List.mem_append_left _ (List.mem_of_getElem? (i := 30) rfl)) rfl
theorem mw448 : Cond.code yX5_turn cX5_turn 3 (some .boolean) ∈ wsA := wa_in (List.mem_append_right _ (List.mem_append_right _ (List.mem_append_right _ (List.mem_append_left _ (List.mem_of_getElem? (i := 226) rfl))))) rfl
theorem mw449 : Cond.methodLink RX5 73 yX5_isRunning ∈ wsA := wa_in (List.mem_append_right _ (List.mem_append_right _ (List.mem_append_right _ (List.mem_append_left _ (List.mem_of_getElem? (i := 227) rfl))))) rfl
theorem mw450 : Cond.instanceMethod yX5_isRunning ∈ wsA := wa_in (List.mem_append_right _ (List.mem_append_right _ (List.mem_append_right _ (List.mem_append_left _ (List.mem_of_getElem? (i := 229) rfl))))) rfl
theorem mw451 : Cond.selects RX5 yX5_isRunning yX5_isRunning ∈ wsA := wa_in (List.mem_append_left _ (List.mem_of_getElem? (i := 31) rfl)) rfl
theorem mw452 : Cond.code yX5_isRunning cX5_isRunning 2 (some .boolean) ∈ wsA := wa_in (List.mem_append_right _ (List.mem_append_right _ (List.mem_append_right _ (List.mem_append_left _ (List.mem_of_getElem? (i := 230) rfl))))) rfl
theorem mw453 : Cond.methodLink RX5 76 yX4_step ∈ wsA := wa_in (List.mem_append_right _ (List.mem_append_right _ (List.mem_append_right _ (List.mem_append_left _ (List.mem_of_getElem? (i := 231) rfl))))) rfl
theorem mw454 : Cond.instanceMethod yX4_step ∈ wsA := wa_in (List.mem_append_right _ (List.mem_append_right _ (List.mem_append_right _ (List.mem_append_left _ (List.mem_of_getElem? (i := 232) rfl))))) rfl
theorem mw455 : Cond.selects RX4 yX4_step yX4_step ∈ wsA := wa_in (List.mem_append_right _ (List.mem_append_right _ (List.mem_append_right _ (List.mem_append_left _ (List.mem_of_getElem? (i := 233) rfl))))) rfl
theorem mw456 : Cond.code yX4_step cX4_step 2 none ∈ wsA := wa_in (List.mem_append_right _ (List.mem_append_right _ (List.mem_append_right _ (List.mem_append_left _ (List.mem_of_getElem? (i := 234) rfl))))) rfl
theorem mw457 : Cond.fieldLink RX4 76 "GuestHouseModel$Bare" "code" "I" ∈ wsA := wa_in (List.mem_append_right _ (List.mem_append_right _ (List.mem_append_right _ (List.mem_append_left _ (List.mem_of_getElem? (i := 93) rfl))))) rfl
theorem mw458 : Cond.fieldLink RX4 98 "GuestHouseModel$Bare" "told" "I" ∈ wsA := wa_in (List.mem_append_right _ (List.mem_append_right _ (List.mem_append_right _ (List.mem_append_left _ (List.mem_of_getElem? (i := 94) rfl))))) rfl
theorem mw459 : Cond.methodLink RX4 79 yX4_hasStatus ∈ wsA := wa_in (List.mem_append_right _ (List.mem_append_right _ (List.mem_append_right _ (List.mem_append_left _ (List.mem_of_getElem? (i := 235) rfl))))) rfl
theorem mw460 : Cond.instanceMethod yX4_hasStatus ∈ wsA := wa_in (List.mem_append_right _ (List.mem_append_right _ (List.mem_append_right _ (List.mem_append_left _ (List.mem_of_getElem? (i := 237) rfl))))) rfl
theorem mw461 : Cond.selects RX4 yX4_hasStatus yX4_hasStatus ∈ wsA := wa_in (List.mem_append_left _ (List.mem_of_getElem? (i := 32) rfl)) rfl
theorem mw462 : Cond.code yX4_hasStatus cX4_hasStatus 2 (some .boolean) ∈ wsA := wa_in (List.mem_append_right _ (List.mem_append_right _ (List.mem_append_right _ (List.mem_append_left _ (List.mem_of_getElem? (i := 238) rfl))))) rfl
theorem mw463 : Cond.methodLink RX4 83 yX4_isTimeUp ∈ wsA := wa_in (List.mem_append_right _ (List.mem_append_right _ (List.mem_append_right _ (List.mem_append_left _ (List.mem_of_getElem? (i := 239) rfl))))) rfl
theorem mw464 : Cond.instanceMethod yX4_isTimeUp ∈ wsA := wa_in (List.mem_append_right _ (List.mem_append_right _ (List.mem_append_right _ (List.mem_append_right _ (List.mem_of_getElem? (i := 1) rfl))))) rfl
theorem mw465 : Cond.selects RX4 yX4_isTimeUp yX4_isTimeUp ∈ wsA := wa_in (List.mem_append_left _ (List.mem_of_getElem? (i := 33) rfl)) rfl
theorem mw466 : Cond.code yX4_isTimeUp cX4_isTimeUp 1 (some .boolean) ∈ wsA := wa_in (List.mem_append_right _ (List.mem_append_right _ (List.mem_append_right _ (List.mem_append_right _ (List.mem_of_getElem? (i := 2) rfl))))) rfl
theorem mw467 : Cond.methodLink RX4 87 yX4_fail ∈ wsA := wa_in (List.mem_append_right _ (List.mem_append_right _ (List.mem_append_right _ (List.mem_append_right _ (List.mem_of_getElem? (i := 3) rfl))))) rfl
theorem mw468 : Cond.instanceMethod yX4_fail ∈ wsA := wa_in (List.mem_append_right _ (List.mem_append_right _ (List.mem_append_right _ (List.mem_append_right _ (List.mem_of_getElem? (i := 5) rfl))))) rfl
theorem mw469 : Cond.selects RX4 yX4_fail yX4_fail ∈ wsA := wa_in (List.mem_append_left _ (List.mem_of_getElem? (i := 34) rfl)) rfl
theorem mw470 : Cond.code yX4_fail cX4_fail 3 none ∈ wsA := wa_in (List.mem_append_right _ (List.mem_append_right _ (List.mem_append_right _ (List.mem_append_right _ (List.mem_of_getElem? (i := 6) rfl))))) rfl
theorem mw471 : Cond.methodLink RX4 91 yX4_reach ∈ wsA := wa_in (List.mem_append_right _ (List.mem_append_right _ (List.mem_append_right _ (List.mem_append_right _ (List.mem_of_getElem? (i := 7) rfl))))) rfl
theorem mw472 : Cond.instanceMethod yX4_reach ∈ wsA := wa_in (List.mem_append_right _ (List.mem_append_right _ (List.mem_append_right _ (List.mem_append_right _ (List.mem_of_getElem? (i := 9) rfl))))) rfl
theorem mw473 : Cond.selects RX4 yX4_reach yX4_reach ∈ wsA := wa_in (List.mem_append_left _ (List.mem_of_getElem? (i := 35) rfl)) rfl
theorem mw474 : Cond.code yX4_reach cX4_reach 4 (some .int) ∈ wsA := wa_in (List.mem_append_right _ (List.mem_append_right _ (List.mem_append_right _ (List.mem_append_right _ (List.mem_of_getElem? (i := 10) rfl))))) rfl
theorem mw475 : Cond.methodLink RX4 101 yX4_isMemory ∈ wsA := wa_in (List.mem_append_right _ (List.mem_append_right _ (List.mem_append_right _ (List.mem_append_right _ (List.mem_of_getElem? (i := 11) rfl))))) rfl
theorem mw476 : Cond.methodLink RX4 104 yX4_fill ∈ wsA := wa_in (List.mem_append_right _ (List.mem_append_right _ (List.mem_append_right _ (List.mem_append_right _ (List.mem_of_getElem? (i := 12) rfl))))) rfl
theorem mw477 : Cond.instanceMethod yX4_fill ∈ wsA := wa_in (List.mem_append_right _ (List.mem_append_right _ (List.mem_append_right _ (List.mem_append_right _ (List.mem_of_getElem? (i := 14) rfl))))) rfl
theorem mw478 : Cond.selects RX4 yX4_fill yX4_fill ∈ wsA := wa_in (List.mem_append_left _ (List.mem_of_getElem? (i := 36) rfl)) rfl
theorem mw479 : Cond.code yX4_fill cX4_fill 7 none ∈ wsA := wa_in (List.mem_append_right _ (List.mem_append_right _ (List.mem_append_right _ (List.mem_append_right _ (List.mem_of_getElem? (i := 15) rfl))))) rfl
theorem mw480 : Cond.methodLink RX4 108 yX4_tableWord ∈ wsA := wa_in (List.mem_append_right _ (List.mem_append_right _ (List.mem_append_right _ (List.mem_append_right _ (List.mem_of_getElem? (i := 16) rfl))))) rfl
theorem mw481 : Cond.instanceMethod yX4_tableWord ∈ wsA := wa_in (List.mem_append_right _ (List.mem_append_right _ (List.mem_append_right _ (List.mem_append_right _ (List.mem_of_getElem? (i := 18) rfl))))) rfl
theorem mw482 : Cond.selects RX4 yX4_tableWord yX4_tableWord ∈ wsA := wa_in (List.mem_append_left _ (List.mem_of_getElem? (i := 37) rfl)) rfl
theorem mw483 : Cond.code yX4_tableWord cX4_tableWord 2 (some .int) ∈ wsA := wa_in (List.mem_append_right _ (List.mem_append_right _ (List.mem_append_right _ (List.mem_append_right _ (List.mem_of_getElem? (i := 19) rfl))))) rfl
theorem mw484 : Cond.methodLink RX4 95 yX4_work ∈ wsA := wa_in (List.mem_append_right _ (List.mem_append_right _ (List.mem_append_right _ (List.mem_append_right _ (List.mem_of_getElem? (i := 20) rfl))))) rfl
theorem mw485 : Cond.instanceMethod yX4_work ∈ wsA := wa_in (List.mem_append_right _ (List.mem_append_right _ (List.mem_append_right _ (List.mem_append_right _ (List.mem_of_getElem? (i := 22) rfl))))) rfl
theorem mw486 : Cond.selects RX4 yX4_work yX4_work ∈ wsA := wa_in (List.mem_append_left _ (List.mem_of_getElem? (i := 38) rfl)) rfl
theorem mw487 : Cond.code yX4_work cX4_work 9 none ∈ wsA := wa_in (List.mem_append_right _ (List.mem_append_right _ (List.mem_append_right _ (List.mem_append_right _ (List.mem_of_getElem? (i := 23) rfl))))) rfl
theorem mw488 : Cond.methodLink RX4 112 yX4_made ∈ wsA := wa_in (List.mem_append_right _ (List.mem_append_right _ (List.mem_append_right _ (List.mem_append_right _ (List.mem_of_getElem? (i := 24) rfl))))) rfl
theorem mw489 : Cond.static yX4_made ∈ wsA := wa_in (List.mem_append_right _ (List.mem_append_right _ (List.mem_append_right _ (List.mem_append_right _ (List.mem_of_getElem? (i := 25) rfl))))) rfl
theorem mw490 : Cond.code yX4_made cX4_made 4 (some .int) ∈ wsA := wa_in (List.mem_append_right _ (List.mem_append_right _ (List.mem_append_right _ (List.mem_append_right _ (List.mem_of_getElem? (i := 26) rfl))))) rfl
theorem mw491 : Cond.methodLink RX4 116 yX4_moved ∈ wsA := wa_in (List.mem_append_right _ (List.mem_append_right _ (List.mem_append_right _ (List.mem_append_right _ (List.mem_of_getElem? (i := 27) rfl))))) rfl
theorem mw492 : Cond.instanceMethod yX4_moved ∈ wsA := wa_in (List.mem_append_right _ (List.mem_append_right _ (List.mem_append_right _ (List.mem_append_right _ (List.mem_of_getElem? (i := 29) rfl))))) rfl
theorem mw493 : Cond.selects RX4 yX4_moved yX4_moved ∈ wsA := wa_in (List.mem_append_left _ (List.mem_of_getElem? (i := 39) rfl)) rfl
theorem mw494 : Cond.code yX4_moved cX4_moved 7 none ∈ wsA := wa_in (List.mem_append_right _ (List.mem_append_right _ (List.mem_append_right _ (List.mem_append_right _ (List.mem_of_getElem? (i := 30) rfl))))) rfl
theorem mw495 : Cond.methodLink RX4 120 yX4_goes ∈ wsA := wa_in (List.mem_append_right _ (List.mem_append_right _ (List.mem_append_right _ (List.mem_append_right _ (List.mem_of_getElem? (i := 31) rfl))))) rfl
theorem mw496 : Cond.static yX4_goes ∈ wsA := wa_in (List.mem_append_right _ (List.mem_append_right _ (List.mem_append_right _ (List.mem_append_right _ (List.mem_of_getElem? (i := 32) rfl))))) rfl
theorem mw497 : Cond.code yX4_goes cX4_goes 3 (some .boolean) ∈ wsA := wa_in (List.mem_append_right _ (List.mem_append_right _ (List.mem_append_right _ (List.mem_append_right _ (List.mem_of_getElem? (i := 33) rfl))))) rfl
theorem mw498 : Cond.methodLink RX4 124 yX4_own ∈ wsA := wa_in (List.mem_append_right _ (List.mem_append_right _ (List.mem_append_right _ (List.mem_append_right _ (List.mem_of_getElem? (i := 34) rfl))))) rfl
theorem mw499 : Cond.instanceMethod yX4_own ∈ wsA := wa_in (List.mem_append_right _ (List.mem_append_right _ (List.mem_append_right _ (List.mem_append_right _ (List.mem_of_getElem? (i := 36) rfl))))) rfl
theorem mw500 : Cond.selects RX4 yX4_own yX4_own ∈ wsA := wa_in (List.mem_append_left _ (List.mem_of_getElem? (i := 40) rfl)) rfl
theorem mw501 : Cond.code yX4_own cX4_own 5 none ∈ wsA := wa_in (List.mem_append_right _ (List.mem_append_right _ (List.mem_append_right _ (List.mem_append_right _ (List.mem_of_getElem? (i := 37) rfl))))) rfl
theorem mw502 : Cond.methodLink RX4 127 yX4_taken ∈ wsA := wa_in (List.mem_append_right _ (List.mem_append_right _ (List.mem_append_right _ (List.mem_append_right _ (List.mem_of_getElem? (i := 38) rfl))))) rfl
theorem mw503 : Cond.instanceMethod yX4_taken ∈ wsA := wa_in (List.mem_append_right _ (List.mem_append_right _ (List.mem_append_right _ (List.mem_append_right _ (List.mem_of_getElem? (i := 40) rfl))))) rfl
theorem mw504 : Cond.selects RX4 yX4_taken yX4_taken ∈ wsA := wa_in (List.mem_append_left _ (List.mem_of_getElem? (i := 41) rfl)) rfl
theorem mw505 : Cond.code yX4_taken cX4_taken 3 (some .int) ∈ wsA := wa_in (List.mem_append_right _ (List.mem_append_right _ (List.mem_append_right _ (List.mem_append_right _ (List.mem_of_getElem? (i := 41) rfl))))) rfl
theorem mw506 : Cond.methodLink RX4 131 yX4_put ∈ wsA := wa_in (List.mem_append_right _ (List.mem_append_right _ (List.mem_append_right _ (List.mem_append_right _ (List.mem_of_getElem? (i := 42) rfl))))) rfl
theorem mw507 : Cond.instanceMethod yX4_put ∈ wsA := wa_in (List.mem_append_right _ (List.mem_append_right _ (List.mem_append_right _ (List.mem_append_right _ (List.mem_of_getElem? (i := 44) rfl))))) rfl
theorem mw508 : Cond.selects RX4 yX4_put yX4_put ∈ wsA := wa_in (List.mem_append_left _ (List.mem_of_getElem? (i := 42) rfl)) rfl
theorem mw509 : Cond.code yX4_put cX4_put 6 none ∈ wsA := wa_in (List.mem_append_right _ (List.mem_append_right _ (List.mem_append_right _ (List.mem_append_right _ (List.mem_of_getElem? (i := 45) rfl))))) rfl
theorem mw510 : Cond.methodLink RL 56 yX3_only ∈ wsA := wa_in (List.mem_append_right _ (List.mem_append_right _ (List.mem_append_left _ (List.mem_of_getElem? (i := 207) rfl)))) rfl
theorem mw511 : Cond.instanceMethod yX3_only ∈ wsA := wa_in (List.mem_append_right _ (List.mem_append_right _ (List.mem_append_left _ (List.mem_of_getElem? (i := 208) rfl)))) rfl
theorem mw512 : Cond.selects RX3 yX3_only yX3_only ∈ wsA := wa_in (List.mem_append_right _ (List.mem_append_right _ (List.mem_append_left _ (List.mem_of_getElem? (i := 209) rfl)))) rfl
theorem mw513 : Cond.code yX3_only cX3_only 5 (some .int) ∈ wsA := wa_in (List.mem_append_right _ (List.mem_append_right _ (List.mem_append_left _ (List.mem_of_getElem? (i := 210) rfl)))) rfl
theorem mw514 : Cond.methodLink RL 59 yX5_only ∈ wsA := wa_in (List.mem_append_right _ (List.mem_append_right _ (List.mem_append_right _ (List.mem_append_right _ (List.mem_of_getElem? (i := 46) rfl))))) rfl
theorem mw515 : Cond.instanceMethod yX5_only ∈ wsA := wa_in (List.mem_append_right _ (List.mem_append_right _ (List.mem_append_right _ (List.mem_append_right _ (List.mem_of_getElem? (i := 47) rfl))))) rfl
theorem mw516 : Cond.selects RX5 yX5_only yX5_only ∈ wsA := wa_in (List.mem_append_right _ (List.mem_append_right _ (List.mem_append_right _ (List.mem_append_right _ (List.mem_of_getElem? (i := 48) rfl))))) rfl
theorem mw517 : Cond.code yX5_only cX5_only 5 (some .int) ∈ wsA := wa_in (List.mem_append_right _ (List.mem_append_right _ (List.mem_append_right _ (List.mem_append_right _ (List.mem_of_getElem? (i := 49) rfl))))) rfl
theorem mw518 : Cond.methodLink RL 60 yX3_state ∈ wsA := wa_in (List.mem_append_right _ (List.mem_append_right _ (List.mem_append_left _ (List.mem_of_getElem? (i := 211) rfl)))) rfl
theorem mw519 : Cond.instanceMethod yX3_state ∈ wsA := wa_in (List.mem_append_right _ (List.mem_append_right _ (List.mem_append_left _ (List.mem_of_getElem? (i := 212) rfl)))) rfl
theorem mw520 : Cond.selects RX3 yX3_state yX3_state ∈ wsA := wa_in (List.mem_append_right _ (List.mem_append_right _ (List.mem_append_left _ (List.mem_of_getElem? (i := 213) rfl)))) rfl
theorem mw521 : Cond.code yX3_state cX3_state 3 (some .int) ∈ wsA := wa_in (List.mem_append_right _ (List.mem_append_right _ (List.mem_append_left _ (List.mem_of_getElem? (i := 214) rfl)))) rfl
theorem mw522 : Cond.methodLink RL 63 yX5_state ∈ wsA := wa_in (List.mem_append_right _ (List.mem_append_right _ (List.mem_append_right _ (List.mem_append_right _ (List.mem_of_getElem? (i := 50) rfl))))) rfl
theorem mw523 : Cond.instanceMethod yX5_state ∈ wsA := wa_in (List.mem_append_right _ (List.mem_append_right _ (List.mem_append_right _ (List.mem_append_right _ (List.mem_of_getElem? (i := 51) rfl))))) rfl
theorem mw524 : Cond.selects RX5 yX5_state yX5_state ∈ wsA := wa_in (List.mem_append_right _ (List.mem_append_right _ (List.mem_append_right _ (List.mem_append_right _ (List.mem_of_getElem? (i := 52) rfl))))) rfl
theorem mw525 : Cond.code yX5_state cX5_state 2 (some .int) ∈ wsA := wa_in (List.mem_append_right _ (List.mem_append_right _ (List.mem_append_right _ (List.mem_append_right _ (List.mem_of_getElem? (i := 53) rfl))))) rfl
theorem mw526 : Cond.methodLink RL 64 yX3_told ∈ wsA := wa_in (List.mem_append_right _ (List.mem_append_right _ (List.mem_append_left _ (List.mem_of_getElem? (i := 215) rfl)))) rfl
theorem mw527 : Cond.instanceMethod yX3_told ∈ wsA := wa_in (List.mem_append_right _ (List.mem_append_right _ (List.mem_append_left _ (List.mem_of_getElem? (i := 216) rfl)))) rfl
theorem mw528 : Cond.selects RX3 yX3_told yX3_told ∈ wsA := wa_in (List.mem_append_right _ (List.mem_append_right _ (List.mem_append_left _ (List.mem_of_getElem? (i := 217) rfl)))) rfl
theorem mw529 : Cond.code yX3_told cX3_told 4 (some .int) ∈ wsA := wa_in (List.mem_append_right _ (List.mem_append_right _ (List.mem_append_left _ (List.mem_of_getElem? (i := 218) rfl)))) rfl
theorem mw530 : Cond.methodLink RX3 109 yX0_tell ∈ wsA := wa_in (List.mem_append_right _ (List.mem_append_right _ (List.mem_append_left _ (List.mem_of_getElem? (i := 219) rfl)))) rfl
theorem mw531 : Cond.instanceMethod yX0_tell ∈ wsA := wa_in (List.mem_append_right _ (List.mem_append_right _ (List.mem_append_left _ (List.mem_of_getElem? (i := 220) rfl)))) rfl
theorem mw532 : Cond.selects RX0 yX0_tell yX0_tell ∈ wsA := wa_in (List.mem_append_right _ (List.mem_append_right _ (List.mem_append_left _ (List.mem_of_getElem? (i := 221) rfl)))) rfl
theorem mw533 : Cond.code yX0_tell cX0_tell 2 (some .int) ∈ wsA := wa_in (List.mem_append_right _ (List.mem_append_right _ (List.mem_append_left _ (List.mem_of_getElem? (i := 222) rfl)))) rfl
theorem mw534 : Cond.methodLink RL 67 yX5_told ∈ wsA := wa_in (List.mem_append_right _ (List.mem_append_right _ (List.mem_append_right _ (List.mem_append_right _ (List.mem_of_getElem? (i := 54) rfl))))) rfl
theorem mw535 : Cond.instanceMethod yX5_told ∈ wsA := wa_in (List.mem_append_right _ (List.mem_append_right _ (List.mem_append_right _ (List.mem_append_right _ (List.mem_of_getElem? (i := 55) rfl))))) rfl
theorem mw536 : Cond.selects RX5 yX5_told yX5_told ∈ wsA := wa_in (List.mem_append_right _ (List.mem_append_right _ (List.mem_append_right _ (List.mem_append_right _ (List.mem_of_getElem? (i := 56) rfl))))) rfl
theorem mw537 : Cond.code yX5_told cX5_told 4 (some .int) ∈ wsA := wa_in (List.mem_append_right _ (List.mem_append_right _ (List.mem_append_right _ (List.mem_append_right _ (List.mem_of_getElem? (i := 57) rfl))))) rfl
theorem mw538 : Cond.fieldLink RX5 83 "GuestHouseModel$Bare" "\x72" "[I" ∈ wsA := wa_in (List.mem_append_right _ (List.mem_append_right _ (List.mem_append_right _ (List.mem_append_left _ (List.mem_of_getElem? (i := 68) rfl))))) rfl
theorem mw539 : Cond.fieldLink RX5 86 "GuestHouseModel$Bare" "control" "[I" ∈ wsA := wa_in (List.mem_append_right _ (List.mem_append_right _ (List.mem_append_right _ (List.mem_append_left _ (List.mem_of_getElem? (i := 70) rfl))))) rfl
theorem mw540 : Cond.fieldLink RX5 89 "GuestHouseModel$Bare" "pc" "I" ∈ wsA := wa_in (List.mem_append_right _ (List.mem_append_right _ (List.mem_append_right _ (List.mem_append_left _ (List.mem_of_getElem? (i := 80) rfl))))) rfl
theorem mw541 : Cond.fieldLink RX5 92 "GuestHouseModel$Bare" "mode" "I" ∈ wsA := wa_in (List.mem_append_right _ (List.mem_append_right _ (List.mem_append_right _ (List.mem_append_left _ (List.mem_of_getElem? (i := 82) rfl))))) rfl
theorem mw542 : Cond.fieldLink RX5 95 "GuestHouseModel$Bare" "frames" "I" ∈ wsA := wa_in (List.mem_append_right _ (List.mem_append_right _ (List.mem_append_right _ (List.mem_append_left _ (List.mem_of_getElem? (i := 60) rfl))))) rfl
theorem mw543 : Cond.fieldLink RX5 98 "GuestHouseModel$Bare" "outs" "I" ∈ wsA := wa_in (List.mem_append_right _ (List.mem_append_right _ (List.mem_append_right _ (List.mem_append_left _ (List.mem_of_getElem? (i := 90) rfl))))) rfl
theorem mw544 : Cond.fieldLink RX5 101 "GuestHouseModel$Bare" "place" "I" ∈ wsA := wa_in (List.mem_append_right _ (List.mem_append_right _ (List.mem_append_right _ (List.mem_append_left _ (List.mem_of_getElem? (i := 86) rfl))))) rfl
theorem mw545 : Cond.fieldLink RX5 104 "GuestHouseModel$Bare" "traps" "I" ∈ wsA := wa_in (List.mem_append_right _ (List.mem_append_right _ (List.mem_append_right _ (List.mem_append_left _ (List.mem_of_getElem? (i := 92) rfl))))) rfl
theorem mw546 : Cond.methodLink RL 68 yX3_peek ∈ wsA := wa_in (List.mem_append_right _ (List.mem_append_right _ (List.mem_append_left _ (List.mem_of_getElem? (i := 223) rfl)))) rfl
theorem mw547 : Cond.instanceMethod yX3_peek ∈ wsA := wa_in (List.mem_append_right _ (List.mem_append_right _ (List.mem_append_left _ (List.mem_of_getElem? (i := 224) rfl)))) rfl
theorem mw548 : Cond.selects RX3 yX3_peek yX3_peek ∈ wsA := wa_in (List.mem_append_right _ (List.mem_append_right _ (List.mem_append_left _ (List.mem_of_getElem? (i := 225) rfl)))) rfl
theorem mw549 : Cond.code yX3_peek cX3_peek 4 (some .int) ∈ wsA := wa_in (List.mem_append_right _ (List.mem_append_right _ (List.mem_append_left _ (List.mem_of_getElem? (i := 226) rfl)))) rfl
theorem mw550 : Cond.methodLink RX3 113 yX1_read ∈ wsA := wa_in (List.mem_append_right _ (List.mem_append_right _ (List.mem_append_left _ (List.mem_of_getElem? (i := 227) rfl)))) rfl
theorem mw551 : Cond.methodLink RL 71 yX5_peek ∈ wsA := wa_in (List.mem_append_right _ (List.mem_append_right _ (List.mem_append_right _ (List.mem_append_right _ (List.mem_of_getElem? (i := 58) rfl))))) rfl
theorem mw552 : Cond.instanceMethod yX5_peek ∈ wsA := wa_in (List.mem_append_right _ (List.mem_append_right _ (List.mem_append_right _ (List.mem_append_right _ (List.mem_of_getElem? (i := 59) rfl))))) rfl
theorem mw553 : Cond.selects RX5 yX5_peek yX5_peek ∈ wsA := wa_in (List.mem_append_right _ (List.mem_append_right _ (List.mem_append_right _ (List.mem_append_right _ (List.mem_of_getElem? (i := 60) rfl))))) rfl
theorem mw554 : Cond.code yX5_peek cX5_peek 3 (some .int) ∈ wsA := wa_in (List.mem_append_right _ (List.mem_append_right _ (List.mem_append_right _ (List.mem_append_right _ (List.mem_of_getElem? (i := 61) rfl))))) rfl
theorem mw555 : Cond.methodLink RL 72 yX3_disk ∈ wsA := wa_in (List.mem_append_right _ (List.mem_append_right _ (List.mem_append_left _ (List.mem_of_getElem? (i := 228) rfl)))) rfl
theorem mw556 : Cond.instanceMethod yX3_disk ∈ wsA := wa_in (List.mem_append_right _ (List.mem_append_right _ (List.mem_append_left _ (List.mem_of_getElem? (i := 229) rfl)))) rfl
theorem mw557 : Cond.selects RX3 yX3_disk yX3_disk ∈ wsA := wa_in (List.mem_append_right _ (List.mem_append_right _ (List.mem_append_left _ (List.mem_of_getElem? (i := 230) rfl)))) rfl
theorem mw558 : Cond.code yX3_disk cX3_disk 4 (some .int) ∈ wsA := wa_in (List.mem_append_right _ (List.mem_append_right _ (List.mem_append_left _ (List.mem_of_getElem? (i := 231) rfl)))) rfl
theorem mw559 : Cond.methodLink RL 75 yX5_disk ∈ wsA := wa_in (List.mem_append_right _ (List.mem_append_right _ (List.mem_append_right _ (List.mem_append_right _ (List.mem_of_getElem? (i := 62) rfl))))) rfl
theorem mw560 : Cond.instanceMethod yX5_disk ∈ wsA := wa_in (List.mem_append_right _ (List.mem_append_right _ (List.mem_append_right _ (List.mem_append_right _ (List.mem_of_getElem? (i := 63) rfl))))) rfl
theorem mw561 : Cond.selects RX5 yX5_disk yX5_disk ∈ wsA := wa_in (List.mem_append_right _ (List.mem_append_right _ (List.mem_append_right _ (List.mem_append_right _ (List.mem_of_getElem? (i := 64) rfl))))) rfl
theorem mw562 : Cond.code yX5_disk cX5_disk 3 (some .int) ∈ wsA := wa_in (List.mem_append_right _ (List.mem_append_right _ (List.mem_append_right _ (List.mem_append_right _ (List.mem_of_getElem? (i := 65) rfl))))) rfl
theorem mw563 : Cond.methodLink RL 76 yX3_out ∈ wsA := wa_in (List.mem_append_right _ (List.mem_append_right _ (List.mem_append_left _ (List.mem_of_getElem? (i := 232) rfl)))) rfl
theorem mw564 : Cond.instanceMethod yX3_out ∈ wsA := wa_in (List.mem_append_right _ (List.mem_append_right _ (List.mem_append_left _ (List.mem_of_getElem? (i := 233) rfl)))) rfl
theorem mw565 : Cond.selects RX3 yX3_out yX3_out ∈ wsA := wa_in (List.mem_append_right _ (List.mem_append_right _ (List.mem_append_left _ (List.mem_of_getElem? (i := 234) rfl)))) rfl
theorem mw566 : Cond.code yX3_out cX3_out 4 (some .int) ∈ wsA := wa_in (List.mem_append_right _ (List.mem_append_right _ (List.mem_append_left _ (List.mem_of_getElem? (i := 235) rfl)))) rfl
theorem mw567 : Cond.methodLink RX3 117 yX0_keptCount ∈ wsA := wa_in (List.mem_append_right _ (List.mem_append_right _ (List.mem_append_left _ (List.mem_of_getElem? (i := 236) rfl)))) rfl
theorem mw568 : Cond.instanceMethod yX0_keptCount ∈ wsA := wa_in (List.mem_append_right _ (List.mem_append_right _ (List.mem_append_left _ (List.mem_of_getElem? (i := 237) rfl)))) rfl
theorem mw569 : Cond.selects RX0 yX0_keptCount yX0_keptCount ∈ wsA := wa_in (List.mem_append_right _ (List.mem_append_right _ (List.mem_append_left _ (List.mem_of_getElem? (i := 238) rfl)))) rfl
theorem mw570 : Cond.code yX0_keptCount cX0_keptCount 1 (some .int) ∈ wsA := wa_in (List.mem_append_right _ (List.mem_append_right _ (List.mem_append_left _ (List.mem_of_getElem? (i := 239) rfl)))) rfl
theorem mw571 : Cond.methodLink RX0 83 Lib.Math.min.name ∈ wsA := wa_in (List.mem_append_right _ (List.mem_append_right _ (List.mem_append_right _ (List.mem_append_left _ (List.mem_of_getElem? (i := 0) rfl))))) rfl
theorem mw572 : Cond.methodLink RL 79 yX5_out ∈ wsA := wa_in (List.mem_append_right _ (List.mem_append_right _ (List.mem_append_right _ (List.mem_append_right _ (List.mem_of_getElem? (i := 66) rfl))))) rfl
theorem mw573 : Cond.instanceMethod yX5_out ∈ wsA := wa_in (List.mem_append_right _ (List.mem_append_right _ (List.mem_append_right _ (List.mem_append_right _ (List.mem_of_getElem? (i := 67) rfl))))) rfl
theorem mw574 : Cond.selects RX5 yX5_out yX5_out ∈ wsA := wa_in (List.mem_append_right _ (List.mem_append_right _ (List.mem_append_right _ (List.mem_append_right _ (List.mem_of_getElem? (i := 68) rfl))))) rfl
theorem mw575 : Cond.code yX5_out cX5_out 3 (some .int) ∈ wsA := wa_in (List.mem_append_right _ (List.mem_append_right _ (List.mem_append_right _ (List.mem_append_right _ (List.mem_of_getElem? (i := 69) rfl))))) rfl
theorem mw576 : Cond.fieldLink RX5 107 "GuestHouseModel$Bare" "out" "[I" ∈ wsA := wa_in (List.mem_append_right _ (List.mem_append_right _ (List.mem_append_right _ (List.mem_append_left _ (List.mem_of_getElem? (i := 78) rfl))))) rfl
theorem mw577 : Cond.methodLink RL 80 yX3_cached ∈ wsA := wa_in (List.mem_append_right _ (List.mem_append_right _ (List.mem_append_right _ (List.mem_append_left _ (List.mem_of_getElem? (i := 1) rfl))))) rfl
theorem mw578 : Cond.instanceMethod yX3_cached ∈ wsA := wa_in (List.mem_append_right _ (List.mem_append_right _ (List.mem_append_right _ (List.mem_append_left _ (List.mem_of_getElem? (i := 2) rfl))))) rfl
theorem mw579 : Cond.selects RX3 yX3_cached yX3_cached ∈ wsA := wa_in (List.mem_append_right _ (List.mem_append_right _ (List.mem_append_right _ (List.mem_append_left _ (List.mem_of_getElem? (i := 3) rfl))))) rfl
theorem mw580 : Cond.code yX3_cached cX3_cached 4 (some .int) ∈ wsA := wa_in (List.mem_append_right _ (List.mem_append_right _ (List.mem_append_right _ (List.mem_append_left _ (List.mem_of_getElem? (i := 4) rfl))))) rfl
theorem mw581 : Cond.methodLink RL 83 yX5_cached ∈ wsA := wa_in (List.mem_append_right _ (List.mem_append_right _ (List.mem_append_right _ (List.mem_append_right _ (List.mem_of_getElem? (i := 70) rfl))))) rfl
theorem mw582 : Cond.instanceMethod yX5_cached ∈ wsA := wa_in (List.mem_append_right _ (List.mem_append_right _ (List.mem_append_right _ (List.mem_append_right _ (List.mem_of_getElem? (i := 71) rfl))))) rfl
theorem mw583 : Cond.selects RX5 yX5_cached yX5_cached ∈ wsA := wa_in (List.mem_append_right _ (List.mem_append_right _ (List.mem_append_right _ (List.mem_append_right _ (List.mem_of_getElem? (i := 72) rfl))))) rfl
theorem mw584 : Cond.code yX5_cached cX5_cached 3 (some .int) ∈ wsA := wa_in (List.mem_append_right _ (List.mem_append_right _ (List.mem_append_right _ (List.mem_append_right _ (List.mem_of_getElem? (i := 73) rfl))))) rfl
theorem mw585 : Cond.fieldLink RX5 110 "GuestHouseModel$Bare" "frameOf" "[I" ∈ wsA := wa_in (List.mem_append_right _ (List.mem_append_right _ (List.mem_append_right _ (List.mem_append_left _ (List.mem_of_getElem? (i := 72) rfl))))) rfl
theorem mw586 : Cond.fieldLink RX5 113 "GuestHouseModel$Bare" "bits" "[I" ∈ wsA := wa_in (List.mem_append_right _ (List.mem_append_right _ (List.mem_append_right _ (List.mem_append_left _ (List.mem_of_getElem? (i := 74) rfl))))) rfl
theorem mw587 : Cond.methodLink RL 84 yX3_house ∈ wsA := wa_in (List.mem_append_right _ (List.mem_append_right _ (List.mem_append_right _ (List.mem_append_left _ (List.mem_of_getElem? (i := 5) rfl))))) rfl
theorem mw588 : Cond.instanceMethod yX3_house ∈ wsA := wa_in (List.mem_append_right _ (List.mem_append_right _ (List.mem_append_right _ (List.mem_append_left _ (List.mem_of_getElem? (i := 6) rfl))))) rfl
theorem mw589 : Cond.selects RX3 yX3_house yX3_house ∈ wsA := wa_in (List.mem_append_right _ (List.mem_append_right _ (List.mem_append_right _ (List.mem_append_left _ (List.mem_of_getElem? (i := 7) rfl))))) rfl
theorem mw590 : Cond.code yX3_house cX3_house 2 (some .int) ∈ wsA := wa_in (List.mem_append_right _ (List.mem_append_right _ (List.mem_append_right _ (List.mem_append_left _ (List.mem_of_getElem? (i := 8) rfl))))) rfl
theorem mw591 : Cond.methodLink RX3 129 yX3_countGuests ∈ wsA := wa_in (List.mem_append_right _ (List.mem_append_right _ (List.mem_append_right _ (List.mem_append_left _ (List.mem_of_getElem? (i := 9) rfl))))) rfl
theorem mw592 : Cond.instanceMethod yX3_countGuests ∈ wsA := wa_in (List.mem_append_right _ (List.mem_append_right _ (List.mem_append_right _ (List.mem_append_left _ (List.mem_of_getElem? (i := 11) rfl))))) rfl
theorem mw593 : Cond.selects RX3 yX3_countGuests yX3_countGuests ∈ wsA := wa_in (List.mem_append_left _ (List.mem_of_getElem? (i := 21) rfl)) rfl
theorem mw594 : Cond.code yX3_countGuests cX3_countGuests 3 (some .int) ∈ wsA := wa_in (List.mem_append_right _ (List.mem_append_right _ (List.mem_append_right _ (List.mem_append_left _ (List.mem_of_getElem? (i := 12) rfl))))) rfl
theorem mw595 : Cond.methodLink RL 87 yX5_house ∈ wsA := wa_in (List.mem_append_right _ (List.mem_append_right _ (List.mem_append_right _ (List.mem_append_right _ (List.mem_of_getElem? (i := 74) rfl))))) rfl
theorem mw596 : Cond.instanceMethod yX5_house ∈ wsA := wa_in (List.mem_append_right _ (List.mem_append_right _ (List.mem_append_right _ (List.mem_append_right _ (List.mem_of_getElem? (i := 75) rfl))))) rfl
theorem mw597 : Cond.selects RX5 yX5_house yX5_house ∈ wsA := wa_in (List.mem_append_right _ (List.mem_append_right _ (List.mem_append_right _ (List.mem_append_right _ (List.mem_of_getElem? (i := 76) rfl))))) rfl
theorem mw598 : Cond.code yX5_house cX5_house 4 (some .int) ∈ wsA := wa_in (List.mem_append_right _ (List.mem_append_right _ (List.mem_append_right _ (List.mem_append_right _ (List.mem_of_getElem? (i := 77) rfl))))) rfl
theorem mw599 : Cond.methodLink RL 88 yX3_audit ∈ wsA := wa_in (List.mem_append_right _ (List.mem_append_right _ (List.mem_append_right _ (List.mem_append_left _ (List.mem_of_getElem? (i := 13) rfl))))) rfl
theorem mw600 : Cond.instanceMethod yX3_audit ∈ wsA := wa_in (List.mem_append_right _ (List.mem_append_right _ (List.mem_append_right _ (List.mem_append_left _ (List.mem_of_getElem? (i := 14) rfl))))) rfl
theorem mw601 : Cond.selects RX3 yX3_audit yX3_audit ∈ wsA := wa_in (List.mem_append_right _ (List.mem_append_right _ (List.mem_append_right _ (List.mem_append_left _ (List.mem_of_getElem? (i := 15) rfl))))) rfl
theorem mw602 : Cond.code yX3_audit cX3_audit 4 (some .int) ∈ wsA := wa_in (List.mem_append_right _ (List.mem_append_right _ (List.mem_append_right _ (List.mem_append_left _ (List.mem_of_getElem? (i := 16) rfl))))) rfl
theorem mw603 : Cond.methodLink RX3 132 yX1_countFaults ∈ wsA := wa_in (List.mem_append_right _ (List.mem_append_right _ (List.mem_append_right _ (List.mem_append_left _ (List.mem_of_getElem? (i := 17) rfl))))) rfl
theorem mw604 : Cond.instanceMethod yX1_countFaults ∈ wsA := wa_in (List.mem_append_right _ (List.mem_append_right _ (List.mem_append_right _ (List.mem_append_left _ (List.mem_of_getElem? (i := 18) rfl))))) rfl
theorem mw605 : Cond.selects RX1 yX1_countFaults yX1_countFaults ∈ wsA := wa_in (List.mem_append_right _ (List.mem_append_right _ (List.mem_append_right _ (List.mem_append_left _ (List.mem_of_getElem? (i := 19) rfl))))) rfl
theorem mw606 : Cond.code yX1_countFaults cX1_countFaults 2 (some .int) ∈ wsA := wa_in (List.mem_append_right _ (List.mem_append_right _ (List.mem_append_right _ (List.mem_append_left _ (List.mem_of_getElem? (i := 20) rfl))))) rfl
theorem mw607 : Cond.methodLink RX1 93 yX1_countWrongUses ∈ wsA := wa_in (List.mem_append_right _ (List.mem_append_right _ (List.mem_append_right _ (List.mem_append_left _ (List.mem_of_getElem? (i := 21) rfl))))) rfl
theorem mw608 : Cond.instanceMethod yX1_countWrongUses ∈ wsA := wa_in (List.mem_append_right _ (List.mem_append_right _ (List.mem_append_right _ (List.mem_append_left _ (List.mem_of_getElem? (i := 23) rfl))))) rfl
theorem mw609 : Cond.selects RX1 yX1_countWrongUses yX1_countWrongUses ∈ wsA := wa_in (List.mem_append_left _ (List.mem_of_getElem? (i := 22) rfl)) rfl
theorem mw610 : Cond.code yX1_countWrongUses cX1_countWrongUses 6 (some .int) ∈ wsA := wa_in (List.mem_append_right _ (List.mem_append_right _ (List.mem_append_right _ (List.mem_append_left _ (List.mem_of_getElem? (i := 24) rfl))))) rfl
theorem mw611 : Cond.methodLink RX1 97 yX1_countWrongSheets ∈ wsA := wa_in (List.mem_append_right _ (List.mem_append_right _ (List.mem_append_right _ (List.mem_append_left _ (List.mem_of_getElem? (i := 25) rfl))))) rfl
theorem mw612 : Cond.instanceMethod yX1_countWrongSheets ∈ wsA := wa_in (List.mem_append_right _ (List.mem_append_right _ (List.mem_append_right _ (List.mem_append_left _ (List.mem_of_getElem? (i := 27) rfl))))) rfl
theorem mw613 : Cond.selects RX1 yX1_countWrongSheets yX1_countWrongSheets ∈ wsA := wa_in (List.mem_append_left _ (List.mem_of_getElem? (i := 23) rfl)) rfl
theorem mw614 : Cond.code yX1_countWrongSheets cX1_countWrongSheets 4 (some .int) ∈ wsA := wa_in (List.mem_append_right _ (List.mem_append_right _ (List.mem_append_right _ (List.mem_append_left _ (List.mem_of_getElem? (i := 28) rfl))))) rfl
theorem mw615 : Cond.methodLink RX1 131 yX1_countDifferent ∈ wsA := wa_in (List.mem_append_right _ (List.mem_append_right _ (List.mem_append_right _ (List.mem_append_left _ (List.mem_of_getElem? (i := 29) rfl))))) rfl
theorem mw616 : Cond.instanceMethod yX1_countDifferent ∈ wsA := wa_in (List.mem_append_right _ (List.mem_append_right _ (List.mem_append_right _ (List.mem_append_left _ (List.mem_of_getElem? (i := 31) rfl))))) rfl
theorem mw617 : Cond.selects RX1 yX1_countDifferent yX1_countDifferent ∈ wsA := wa_in (List.mem_append_left _ (List.mem_of_getElem? (i := 24) rfl)) rfl
theorem mw618 : Cond.code yX1_countDifferent cX1_countDifferent 5 (some .int) ∈ wsA := wa_in (List.mem_append_right _ (List.mem_append_right _ (List.mem_append_right _ (List.mem_append_left _ (List.mem_of_getElem? (i := 32) rfl))))) rfl
theorem mw619 : Cond.methodLink RX1 101 yX1_countWrongFrames ∈ wsA := wa_in (List.mem_append_right _ (List.mem_append_right _ (List.mem_append_right _ (List.mem_append_left _ (List.mem_of_getElem? (i := 33) rfl))))) rfl
theorem mw620 : Cond.instanceMethod yX1_countWrongFrames ∈ wsA := wa_in (List.mem_append_right _ (List.mem_append_right _ (List.mem_append_right _ (List.mem_append_left _ (List.mem_of_getElem? (i := 35) rfl))))) rfl
theorem mw621 : Cond.selects RX1 yX1_countWrongFrames yX1_countWrongFrames ∈ wsA := wa_in (List.mem_append_left _ (List.mem_of_getElem? (i := 25) rfl)) rfl
theorem mw622 : Cond.code yX1_countWrongFrames cX1_countWrongFrames 5 (some .int) ∈ wsA := wa_in (List.mem_append_right _ (List.mem_append_right _ (List.mem_append_right _ (List.mem_append_left _ (List.mem_of_getElem? (i := 36) rfl))))) rfl
theorem mw623 : Cond.methodLink RX1 104 yX1_countWrongFree ∈ wsA := wa_in (List.mem_append_right _ (List.mem_append_right _ (List.mem_append_right _ (List.mem_append_left _ (List.mem_of_getElem? (i := 37) rfl))))) rfl
theorem mw624 : Cond.instanceMethod yX1_countWrongFree ∈ wsA := wa_in (List.mem_append_right _ (List.mem_append_right _ (List.mem_append_right _ (List.mem_append_left _ (List.mem_of_getElem? (i := 39) rfl))))) rfl
theorem mw625 : Cond.selects RX1 yX1_countWrongFree yX1_countWrongFree ∈ wsA := wa_in (List.mem_append_left _ (List.mem_of_getElem? (i := 26) rfl)) rfl
theorem mw626 : Cond.code yX1_countWrongFree cX1_countWrongFree 3 (some .int) ∈ wsA := wa_in (List.mem_append_right _ (List.mem_append_right _ (List.mem_append_right _ (List.mem_append_left _ (List.mem_of_getElem? (i := 40) rfl))))) rfl
theorem mw627 : Cond.methodLink RX3 136 yX0_countFaults ∈ wsA := wa_in (List.mem_append_right _ (List.mem_append_right _ (List.mem_append_right _ (List.mem_append_left _ (List.mem_of_getElem? (i := 41) rfl))))) rfl
theorem mw628 : Cond.instanceMethod yX0_countFaults ∈ wsA := wa_in (List.mem_append_right _ (List.mem_append_right _ (List.mem_append_right _ (List.mem_append_left _ (List.mem_of_getElem? (i := 42) rfl))))) rfl
theorem mw629 : Cond.selects RX0 yX0_countFaults yX0_countFaults ∈ wsA := wa_in (List.mem_append_right _ (List.mem_append_right _ (List.mem_append_right _ (List.mem_append_left _ (List.mem_of_getElem? (i := 43) rfl))))) rfl
theorem mw630 : Cond.code yX0_countFaults cX0_countFaults 7 (some .int) ∈ wsA := wa_in (List.mem_append_right _ (List.mem_append_right _ (List.mem_append_right _ (List.mem_append_left _ (List.mem_of_getElem? (i := 44) rfl))))) rfl
theorem mw631 : Cond.methodLink RX0 89 yX0_hasWord ∈ wsA := wa_in (List.mem_append_right _ (List.mem_append_right _ (List.mem_append_right _ (List.mem_append_left _ (List.mem_of_getElem? (i := 45) rfl))))) rfl
theorem mw632 : Cond.methodLink RL 92 yX5_audit ∈ wsA := wa_in (List.mem_append_right _ (List.mem_append_right _ (List.mem_append_right _ (List.mem_append_right _ (List.mem_of_getElem? (i := 78) rfl))))) rfl
theorem mw633 : Cond.instanceMethod yX5_audit ∈ wsA := wa_in (List.mem_append_right _ (List.mem_append_right _ (List.mem_append_right _ (List.mem_append_right _ (List.mem_of_getElem? (i := 79) rfl))))) rfl
theorem mw634 : Cond.selects RX5 yX5_audit yX5_audit ∈ wsA := wa_in (List.mem_append_right _ (List.mem_append_right _ (List.mem_append_right _ (List.mem_append_right _ (List.mem_of_getElem? (i := 80) rfl))))) rfl
theorem mw635 : Cond.code yX5_audit cX5_audit 1 (some .int) ∈ wsA := wa_in (List.mem_append_right _ (List.mem_append_right _ (List.mem_append_right _ (List.mem_append_right _ (List.mem_of_getElem? (i := 81) rfl))))) rfl
theorem mw636 : Cond.methodLinkNest RX3 11 yX1_init "GuestHouse" ∈ lw_tbl := List.mem_append_right _ (List.mem_append_left _ (List.mem_of_getElem? (i := 20) rfl))
theorem mw637 : Cond.methodLinkNest RX3 142 yX0_init "GuestHouse" ∈ lw_tbl := List.mem_append_right _ (List.mem_append_left _ (List.mem_of_getElem? (i := 144) rfl))
theorem mw638 : Cond.fieldLinkNest RX3 92 "GuestHouse$Guest" "here" "Z" "GuestHouse" ∈ lw_tbl := List.mem_append_right _ (List.mem_append_left _ (List.mem_of_getElem? (i := 149) rfl))
theorem mw639 : Cond.fieldLinkNest RX1 127 "GuestHouse$Guest" "here" "Z" "GuestHouse" ∈ lw_tbl := List.mem_append_right _ (List.mem_append_left _ (List.mem_of_getElem? (i := 150) rfl))
theorem mw640 : Cond.fieldLinkNest RX3 54 "GuestHouse$Guest" "phase" "I" "GuestHouse" ∈ lw_tbl := List.mem_append_right _ (List.mem_append_left _ (List.mem_of_getElem? (i := 152) rfl))
theorem mw641 : Cond.fieldLinkNest RX2 131 "GuestHouse$Guest" "phase" "I" "GuestHouse" ∈ lw_tbl := List.mem_append_right _ (List.mem_append_left _ (List.mem_of_getElem? (i := 153) rfl))
theorem mw642 : Cond.fieldLinkNest RX2 26 "GuestHouse$Guest" "pc" "I" "GuestHouse" ∈ lw_tbl := List.mem_append_right _ (List.mem_append_left _ (List.mem_of_getElem? (i := 154) rfl))
theorem mw643 : Cond.fieldLinkNest RX3 73 "GuestHouse$Guest" "pc" "I" "GuestHouse" ∈ lw_tbl := List.mem_append_right _ (List.mem_append_left _ (List.mem_of_getElem? (i := 156) rfl))
theorem mw644 : Cond.fieldLinkNest RX2 72 "GuestHouse$Guest" "mode" "I" "GuestHouse" ∈ lw_tbl := List.mem_append_right _ (List.mem_append_left _ (List.mem_of_getElem? (i := 157) rfl))
theorem mw645 : Cond.fieldLinkNest RX3 76 "GuestHouse$Guest" "mode" "I" "GuestHouse" ∈ lw_tbl := List.mem_append_right _ (List.mem_append_left _ (List.mem_of_getElem? (i := 159) rfl))
theorem mw646 : Cond.fieldLinkNest RX2 147 "GuestHouse$Guest" "place" "I" "GuestHouse" ∈ lw_tbl := List.mem_append_right _ (List.mem_append_left _ (List.mem_of_getElem? (i := 161) rfl))
theorem mw647 : Cond.fieldLinkNest RX1 59 "GuestHouse$Guest" "frames" "I" "GuestHouse" ∈ lw_tbl := List.mem_append_right _ (List.mem_append_left _ (List.mem_of_getElem? (i := 164) rfl))
theorem mw648 : Cond.fieldLinkNest RX2 99 "GuestHouse$Guest" "frames" "I" "GuestHouse" ∈ lw_tbl := List.mem_append_right _ (List.mem_append_left _ (List.mem_of_getElem? (i := 165) rfl))
theorem mw649 : Cond.fieldLinkNest RX1 62 "GuestHouse$Guest" "sheets" "[I" "GuestHouse" ∈ lw_tbl := List.mem_append_right _ (List.mem_append_left _ (List.mem_of_getElem? (i := 167) rfl))
theorem mw650 : Cond.fieldLinkNest RX3 66 "GuestHouse$Guest" "sectors" "[I" "GuestHouse" ∈ lw_tbl := List.mem_append_right _ (List.mem_append_left _ (List.mem_of_getElem? (i := 169) rfl))
theorem mw651 : Cond.fieldLinkNest RX1 84 "GuestHouse$Guest" "sectors" "[I" "GuestHouse" ∈ lw_tbl := List.mem_append_right _ (List.mem_append_left _ (List.mem_of_getElem? (i := 170) rfl))
theorem mw652 : Cond.fieldLinkNest RX2 82 "GuestHouse$Guest" "registers" "[I" "GuestHouse" ∈ lw_tbl := List.mem_append_right _ (List.mem_append_left _ (List.mem_of_getElem? (i := 172) rfl))
theorem mw653 : Cond.fieldLinkNest RX2 34 "GuestHouse$Guest" "controls" "[I" "GuestHouse" ∈ lw_tbl := List.mem_append_right _ (List.mem_append_left _ (List.mem_of_getElem? (i := 174) rfl))
theorem mw654 : Cond.fieldLinkNest RX2 96 "GuestHouse$Guest" "cache" "[I" "GuestHouse" ∈ lw_tbl := List.mem_append_right _ (List.mem_append_left _ (List.mem_of_getElem? (i := 176) rfl))
theorem mw655 : Cond.fieldLinkNest RX3 123 "GuestHouse$Guest" "cache" "[I" "GuestHouse" ∈ lw_tbl := List.mem_append_right _ (List.mem_append_left _ (List.mem_of_getElem? (i := 177) rfl))
theorem mw656 : Cond.fieldLinkNest RX2 89 "GuestHouse$Guest" "waiting" "I" "GuestHouse" ∈ lw_tbl := List.mem_append_right _ (List.mem_append_left _ (List.mem_of_getElem? (i := 181) rfl))
theorem mw657 : Cond.fieldLinkNest RX3 120 "GuestHouse$Guest" "kept" "[I" "GuestHouse" ∈ lw_tbl := List.mem_append_right _ (List.mem_append_left _ (List.mem_of_getElem? (i := 183) rfl))
theorem mw658 : Cond.fieldLinkNest RX2 144 "GuestHouse$Guest" "putCount" "I" "GuestHouse" ∈ lw_tbl := List.mem_append_right _ (List.mem_append_left _ (List.mem_of_getElem? (i := 185) rfl))
theorem mw659 : Cond.methodLinkNest RX5 23 yX4_init "GuestHouseModel" ∈ lw_tbl := List.mem_append_right _ (List.mem_append_right _ (List.mem_append_right _ (List.mem_append_left _ (List.mem_of_getElem? (i := 55) rfl))))
theorem mw660 : Cond.methodLinkNest RX4 72 yX5_isBelow "GuestHouseModel" ∈ lw_tbl := List.mem_append_right _ (List.mem_append_right _ (List.mem_append_right _ (List.mem_append_left _ (List.mem_of_getElem? (i := 186) rfl))))
theorem ly0_0 : u_lay RX0 TX0 0 ∈ wsA := wa_in (List.mem_append_right _ (List.mem_append_left _ (List.mem_of_getElem? (i := 186) rfl))) rfl
theorem ly0_1 : u_lay RX0 TX0 1 ∈ wsA := wa_in (List.mem_append_right _ (List.mem_append_left _ (List.mem_of_getElem? (i := 188) rfl))) rfl
theorem ly0_2 : u_lay RX0 TX0 2 ∈ wsA := wa_in (List.mem_append_right _ (List.mem_append_left _ (List.mem_of_getElem? (i := 190) rfl))) rfl
theorem ly0_3 : u_lay RX0 TX0 3 ∈ wsA := wa_in (List.mem_append_right _ (List.mem_append_left _ (List.mem_of_getElem? (i := 192) rfl))) rfl
theorem ly0_4 : u_lay RX0 TX0 4 ∈ wsA := wa_in (List.mem_append_right _ (List.mem_append_left _ (List.mem_of_getElem? (i := 194) rfl))) rfl
theorem ly0_5 : u_lay RX0 TX0 5 ∈ wsA := wa_in (List.mem_append_right _ (List.mem_append_left _ (List.mem_of_getElem? (i := 196) rfl))) rfl
theorem ly0_6 : u_lay RX0 TX0 6 ∈ wsA := wa_in (List.mem_append_right _ (List.mem_append_left _ (List.mem_of_getElem? (i := 198) rfl))) rfl
theorem ly0_7 : u_lay RX0 TX0 7 ∈ wsA := wa_in (List.mem_append_right _ (List.mem_append_left _ (List.mem_of_getElem? (i := 200) rfl))) rfl
theorem ly0_8 : u_lay RX0 TX0 8 ∈ wsA := wa_in (List.mem_append_right _ (List.mem_append_left _ (List.mem_of_getElem? (i := 202) rfl))) rfl
theorem ly0_9 : u_lay RX0 TX0 9 ∈ wsA := wa_in (List.mem_append_right _ (List.mem_append_left _ (List.mem_of_getElem? (i := 204) rfl))) rfl
theorem ly0_10 : u_lay RX0 TX0 10 ∈ wsA := wa_in (List.mem_append_right _ (List.mem_append_left _ (List.mem_of_getElem? (i := 206) rfl))) rfl
theorem ly0_11 : u_lay RX0 TX0 11 ∈ wsA := wa_in (List.mem_append_right _ (List.mem_append_left _ (List.mem_of_getElem? (i := 208) rfl))) rfl
theorem ly0_12 : u_lay RX0 TX0 12 ∈ wsA := wa_in (List.mem_append_right _ (List.mem_append_left _ (List.mem_of_getElem? (i := 210) rfl))) rfl
theorem ly0_13 : u_lay RX0 TX0 13 ∈ wsA := wa_in (List.mem_append_right _ (List.mem_append_left _ (List.mem_of_getElem? (i := 212) rfl))) rfl
theorem ly0_14 : u_lay RX0 TX0 14 ∈ wsA := wa_in (List.mem_append_right _ (List.mem_append_left _ (List.mem_of_getElem? (i := 214) rfl))) rfl
theorem ly0_15 : u_lay RX0 TX0 15 ∈ wsA := wa_in (List.mem_append_right _ (List.mem_append_left _ (List.mem_of_getElem? (i := 216) rfl))) rfl
theorem ly0_16 : u_lay RX0 TX0 16 ∈ wsA := wa_in (List.mem_append_right _ (List.mem_append_left _ (List.mem_of_getElem? (i := 218) rfl))) rfl
theorem inA0 : ∀ w ∈ u_ws RX0 TX0 17, w ∈ wsA := List.forall_mem_cons.mpr ⟨ly0_0, List.forall_mem_cons.mpr ⟨ly0_1, List.forall_mem_cons.mpr ⟨ly0_2, List.forall_mem_cons.mpr ⟨ly0_3, List.forall_mem_cons.mpr ⟨ly0_4, List.forall_mem_cons.mpr ⟨ly0_5, List.forall_mem_cons.mpr ⟨ly0_6, List.forall_mem_cons.mpr ⟨ly0_7, List.forall_mem_cons.mpr ⟨ly0_8, List.forall_mem_cons.mpr ⟨ly0_9, List.forall_mem_cons.mpr ⟨ly0_10, List.forall_mem_cons.mpr ⟨ly0_11, List.forall_mem_cons.mpr ⟨ly0_12, List.forall_mem_cons.mpr ⟨ly0_13, List.forall_mem_cons.mpr ⟨ly0_14, List.forall_mem_cons.mpr ⟨ly0_15, List.forall_mem_cons.mpr ⟨ly0_16, fun _ h => absurd h List.not_mem_nil⟩⟩⟩⟩⟩⟩⟩⟩⟩⟩⟩⟩⟩⟩⟩⟩⟩
theorem ly1_0 : u_lay RX1 TX1 0 ∈ wsA := wa_in (List.mem_append_right _ (List.mem_append_left _ (List.mem_of_getElem? (i := 37) rfl))) rfl
theorem ly1_1 : u_lay RX1 TX1 1 ∈ wsA := wa_in (List.mem_append_right _ (List.mem_append_left _ (List.mem_of_getElem? (i := 39) rfl))) rfl
theorem ly1_2 : u_lay RX1 TX1 2 ∈ wsA := wa_in (List.mem_append_right _ (List.mem_append_left _ (List.mem_of_getElem? (i := 41) rfl))) rfl
theorem ly1_3 : u_lay RX1 TX1 3 ∈ wsA := wa_in (List.mem_append_right _ (List.mem_append_left _ (List.mem_of_getElem? (i := 43) rfl))) rfl
theorem ly1_4 : u_lay RX1 TX1 4 ∈ wsA := wa_in (List.mem_append_right _ (List.mem_append_left _ (List.mem_of_getElem? (i := 45) rfl))) rfl
theorem ly1_5 : u_lay RX1 TX1 5 ∈ wsA := wa_in (List.mem_append_right _ (List.mem_append_left _ (List.mem_of_getElem? (i := 47) rfl))) rfl
theorem ly1_6 : u_lay RX1 TX1 6 ∈ wsA := wa_in (List.mem_append_right _ (List.mem_append_left _ (List.mem_of_getElem? (i := 49) rfl))) rfl
theorem ly1_7 : u_lay RX1 TX1 7 ∈ wsA := wa_in (List.mem_append_right _ (List.mem_append_left _ (List.mem_of_getElem? (i := 51) rfl))) rfl
theorem ly1_8 : u_lay RX1 TX1 8 ∈ wsA := wa_in (List.mem_append_right _ (List.mem_append_left _ (List.mem_of_getElem? (i := 53) rfl))) rfl
theorem ly1_9 : u_lay RX1 TX1 9 ∈ wsA := wa_in (List.mem_append_right _ (List.mem_append_left _ (List.mem_of_getElem? (i := 55) rfl))) rfl
theorem ly1_10 : u_lay RX1 TX1 10 ∈ wsA := wa_in (List.mem_append_right _ (List.mem_append_left _ (List.mem_of_getElem? (i := 57) rfl))) rfl
theorem ly1_11 : u_lay RX1 TX1 11 ∈ wsA := wa_in (List.mem_append_right _ (List.mem_append_left _ (List.mem_of_getElem? (i := 59) rfl))) rfl
theorem ly1_12 : u_lay RX1 TX1 12 ∈ wsA := wa_in (List.mem_append_right _ (List.mem_append_left _ (List.mem_of_getElem? (i := 61) rfl))) rfl
theorem inA1 : ∀ w ∈ u_ws RX1 TX1 13, w ∈ wsA := List.forall_mem_cons.mpr ⟨ly1_0, List.forall_mem_cons.mpr ⟨ly1_1, List.forall_mem_cons.mpr ⟨ly1_2, List.forall_mem_cons.mpr ⟨ly1_3, List.forall_mem_cons.mpr ⟨ly1_4, List.forall_mem_cons.mpr ⟨ly1_5, List.forall_mem_cons.mpr ⟨ly1_6, List.forall_mem_cons.mpr ⟨ly1_7, List.forall_mem_cons.mpr ⟨ly1_8, List.forall_mem_cons.mpr ⟨ly1_9, List.forall_mem_cons.mpr ⟨ly1_10, List.forall_mem_cons.mpr ⟨ly1_11, List.forall_mem_cons.mpr ⟨ly1_12, fun _ h => absurd h List.not_mem_nil⟩⟩⟩⟩⟩⟩⟩⟩⟩⟩⟩⟩⟩
theorem ly2_0 : u_lay RX2 TX2 0 ∈ wsA := wa_in (List.mem_append_right _ (List.mem_append_left _ (List.mem_of_getElem? (i := 77) rfl))) rfl
theorem ly2_1 : u_lay RX2 TX2 1 ∈ wsA := wa_in (List.mem_append_right _ (List.mem_append_left _ (List.mem_of_getElem? (i := 79) rfl))) rfl
theorem ly2_2 : u_lay RX2 TX2 2 ∈ wsA := wa_in (List.mem_append_right _ (List.mem_append_left _ (List.mem_of_getElem? (i := 81) rfl))) rfl
theorem ly2_3 : u_lay RX2 TX2 3 ∈ wsA := wa_in (List.mem_append_right _ (List.mem_append_left _ (List.mem_of_getElem? (i := 83) rfl))) rfl
theorem ly2_4 : u_lay RX2 TX2 4 ∈ wsA := wa_in (List.mem_append_right _ (List.mem_append_left _ (List.mem_of_getElem? (i := 85) rfl))) rfl
theorem inA2 : ∀ w ∈ u_ws RX2 TX2 5, w ∈ wsA := List.forall_mem_cons.mpr ⟨ly2_0, List.forall_mem_cons.mpr ⟨ly2_1, List.forall_mem_cons.mpr ⟨ly2_2, List.forall_mem_cons.mpr ⟨ly2_3, List.forall_mem_cons.mpr ⟨ly2_4, fun _ h => absurd h List.not_mem_nil⟩⟩⟩⟩⟩
theorem ly3_0 : u_lay RX3 TX3 0 ∈ wsA := wa_in (List.mem_append_right _ (List.mem_append_left _ (List.mem_of_getElem? (i := 108) rfl))) rfl
theorem ly3_1 : u_lay RX3 TX3 1 ∈ wsA := wa_in (List.mem_append_right _ (List.mem_append_left _ (List.mem_of_getElem? (i := 110) rfl))) rfl
theorem ly3_2 : u_lay RX3 TX3 2 ∈ wsA := wa_in (List.mem_append_right _ (List.mem_append_left _ (List.mem_of_getElem? (i := 112) rfl))) rfl
theorem ly3_3 : u_lay RX3 TX3 3 ∈ wsA := wa_in (List.mem_append_right _ (List.mem_append_left _ (List.mem_of_getElem? (i := 114) rfl))) rfl
theorem ly3_4 : u_lay RX3 TX3 4 ∈ wsA := wa_in (List.mem_append_right _ (List.mem_append_left _ (List.mem_of_getElem? (i := 116) rfl))) rfl
theorem ly3_5 : u_lay RX3 TX3 5 ∈ wsA := wa_in (List.mem_append_right _ (List.mem_append_left _ (List.mem_of_getElem? (i := 118) rfl))) rfl
theorem ly3_6 : u_lay RX3 TX3 6 ∈ wsA := wa_in (List.mem_append_right _ (List.mem_append_left _ (List.mem_of_getElem? (i := 120) rfl))) rfl
theorem inA3 : ∀ w ∈ u_ws RX3 TX3 7, w ∈ wsA := List.forall_mem_cons.mpr ⟨ly3_0, List.forall_mem_cons.mpr ⟨ly3_1, List.forall_mem_cons.mpr ⟨ly3_2, List.forall_mem_cons.mpr ⟨ly3_3, List.forall_mem_cons.mpr ⟨ly3_4, List.forall_mem_cons.mpr ⟨ly3_5, List.forall_mem_cons.mpr ⟨ly3_6, fun _ h => absurd h List.not_mem_nil⟩⟩⟩⟩⟩⟩⟩
theorem ly4_0 : u_lay RX4 TX4 0 ∈ wsA := wa_in (List.mem_append_right _ (List.mem_append_right _ (List.mem_append_right _ (List.mem_append_left _ (List.mem_of_getElem? (i := 95) rfl))))) rfl
theorem ly4_1 : u_lay RX4 TX4 1 ∈ wsA := wa_in (List.mem_append_right _ (List.mem_append_right _ (List.mem_append_right _ (List.mem_append_left _ (List.mem_of_getElem? (i := 97) rfl))))) rfl
theorem ly4_2 : u_lay RX4 TX4 2 ∈ wsA := wa_in (List.mem_append_right _ (List.mem_append_right _ (List.mem_append_right _ (List.mem_append_left _ (List.mem_of_getElem? (i := 99) rfl))))) rfl
theorem ly4_3 : u_lay RX4 TX4 3 ∈ wsA := wa_in (List.mem_append_right _ (List.mem_append_right _ (List.mem_append_right _ (List.mem_append_left _ (List.mem_of_getElem? (i := 101) rfl))))) rfl
theorem ly4_4 : u_lay RX4 TX4 4 ∈ wsA := wa_in (List.mem_append_right _ (List.mem_append_right _ (List.mem_append_right _ (List.mem_append_left _ (List.mem_of_getElem? (i := 103) rfl))))) rfl
theorem ly4_5 : u_lay RX4 TX4 5 ∈ wsA := wa_in (List.mem_append_right _ (List.mem_append_right _ (List.mem_append_right _ (List.mem_append_left _ (List.mem_of_getElem? (i := 105) rfl))))) rfl
theorem ly4_6 : u_lay RX4 TX4 6 ∈ wsA := wa_in (List.mem_append_right _ (List.mem_append_right _ (List.mem_append_right _ (List.mem_append_left _ (List.mem_of_getElem? (i := 107) rfl))))) rfl
theorem ly4_7 : u_lay RX4 TX4 7 ∈ wsA := wa_in (List.mem_append_right _ (List.mem_append_right _ (List.mem_append_right _ (List.mem_append_left _ (List.mem_of_getElem? (i := 109) rfl))))) rfl
theorem ly4_8 : u_lay RX4 TX4 8 ∈ wsA := wa_in (List.mem_append_right _ (List.mem_append_right _ (List.mem_append_right _ (List.mem_append_left _ (List.mem_of_getElem? (i := 111) rfl))))) rfl
theorem ly4_9 : u_lay RX4 TX4 9 ∈ wsA := wa_in (List.mem_append_right _ (List.mem_append_right _ (List.mem_append_right _ (List.mem_append_left _ (List.mem_of_getElem? (i := 113) rfl))))) rfl
theorem ly4_10 : u_lay RX4 TX4 10 ∈ wsA := wa_in (List.mem_append_right _ (List.mem_append_right _ (List.mem_append_right _ (List.mem_append_left _ (List.mem_of_getElem? (i := 115) rfl))))) rfl
theorem ly4_11 : u_lay RX4 TX4 11 ∈ wsA := wa_in (List.mem_append_right _ (List.mem_append_right _ (List.mem_append_right _ (List.mem_append_left _ (List.mem_of_getElem? (i := 117) rfl))))) rfl
theorem ly4_12 : u_lay RX4 TX4 12 ∈ wsA := wa_in (List.mem_append_right _ (List.mem_append_right _ (List.mem_append_right _ (List.mem_append_left _ (List.mem_of_getElem? (i := 119) rfl))))) rfl
theorem ly4_13 : u_lay RX4 TX4 13 ∈ wsA := wa_in (List.mem_append_right _ (List.mem_append_right _ (List.mem_append_right _ (List.mem_append_left _ (List.mem_of_getElem? (i := 121) rfl))))) rfl
theorem ly4_14 : u_lay RX4 TX4 14 ∈ wsA := wa_in (List.mem_append_right _ (List.mem_append_right _ (List.mem_append_right _ (List.mem_append_left _ (List.mem_of_getElem? (i := 123) rfl))))) rfl
theorem ly4_15 : u_lay RX4 TX4 15 ∈ wsA := wa_in (List.mem_append_right _ (List.mem_append_right _ (List.mem_append_right _ (List.mem_append_left _ (List.mem_of_getElem? (i := 125) rfl))))) rfl
theorem ly4_16 : u_lay RX4 TX4 16 ∈ wsA := wa_in (List.mem_append_right _ (List.mem_append_right _ (List.mem_append_right _ (List.mem_append_left _ (List.mem_of_getElem? (i := 127) rfl))))) rfl
theorem ly4_17 : u_lay RX4 TX4 17 ∈ wsA := wa_in (List.mem_append_right _ (List.mem_append_right _ (List.mem_append_right _ (List.mem_append_left _ (List.mem_of_getElem? (i := 129) rfl))))) rfl
theorem ly4_18 : u_lay RX4 TX4 18 ∈ wsA := wa_in (List.mem_append_right _ (List.mem_append_right _ (List.mem_append_right _ (List.mem_append_left _ (List.mem_of_getElem? (i := 131) rfl))))) rfl
theorem inA4 : ∀ w ∈ u_ws RX4 TX4 19, w ∈ wsA := List.forall_mem_cons.mpr ⟨ly4_0, List.forall_mem_cons.mpr ⟨ly4_1, List.forall_mem_cons.mpr ⟨ly4_2, List.forall_mem_cons.mpr ⟨ly4_3, List.forall_mem_cons.mpr ⟨ly4_4, List.forall_mem_cons.mpr ⟨ly4_5, List.forall_mem_cons.mpr ⟨ly4_6, List.forall_mem_cons.mpr ⟨ly4_7, List.forall_mem_cons.mpr ⟨ly4_8, List.forall_mem_cons.mpr ⟨ly4_9, List.forall_mem_cons.mpr ⟨ly4_10, List.forall_mem_cons.mpr ⟨ly4_11, List.forall_mem_cons.mpr ⟨ly4_12, List.forall_mem_cons.mpr ⟨ly4_13, List.forall_mem_cons.mpr ⟨ly4_14, List.forall_mem_cons.mpr ⟨ly4_15, List.forall_mem_cons.mpr ⟨ly4_16, List.forall_mem_cons.mpr ⟨ly4_17, List.forall_mem_cons.mpr ⟨ly4_18, fun _ h => absurd h List.not_mem_nil⟩⟩⟩⟩⟩⟩⟩⟩⟩⟩⟩⟩⟩⟩⟩⟩⟩⟩⟩
theorem ly5_0 : u_lay RX5 TX5 0 ∈ wsA := wa_in (List.mem_append_right _ (List.mem_append_right _ (List.mem_append_right _ (List.mem_append_left _ (List.mem_of_getElem? (i := 139) rfl))))) rfl
theorem ly5_1 : u_lay RX5 TX5 1 ∈ wsA := wa_in (List.mem_append_right _ (List.mem_append_right _ (List.mem_append_right _ (List.mem_append_left _ (List.mem_of_getElem? (i := 141) rfl))))) rfl
theorem ly5_2 : u_lay RX5 TX5 2 ∈ wsA := wa_in (List.mem_append_right _ (List.mem_append_right _ (List.mem_append_right _ (List.mem_append_left _ (List.mem_of_getElem? (i := 143) rfl))))) rfl
theorem ly5_3 : u_lay RX5 TX5 3 ∈ wsA := wa_in (List.mem_append_right _ (List.mem_append_right _ (List.mem_append_right _ (List.mem_append_left _ (List.mem_of_getElem? (i := 145) rfl))))) rfl
theorem ly5_4 : u_lay RX5 TX5 4 ∈ wsA := wa_in (List.mem_append_right _ (List.mem_append_right _ (List.mem_append_right _ (List.mem_append_left _ (List.mem_of_getElem? (i := 147) rfl))))) rfl
theorem inA5 : ∀ w ∈ u_ws RX5 TX5 5, w ∈ wsA := List.forall_mem_cons.mpr ⟨ly5_0, List.forall_mem_cons.mpr ⟨ly5_1, List.forall_mem_cons.mpr ⟨ly5_2, List.forall_mem_cons.mpr ⟨ly5_3, List.forall_mem_cons.mpr ⟨ly5_4, fun _ h => absurd h List.not_mem_nil⟩⟩⟩⟩⟩
