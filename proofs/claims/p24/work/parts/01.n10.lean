set_option maxRecDepth 20000 in
theorem gL_acts_X5_setMap : GoodIn wsL_acts (wsV RL 106 RX5 yX5_setMap wsX5_setMap) := goodIn_app (goodIn_of _ (by decide +kernel)) ggL_acts_X5_setMap
set_option maxRecDepth 20000 in
theorem ggL_acts_X5_number : GoodIn wsL_acts wsX5_number := goodIn_r _ [126, 11, 127, 128, 129, 87, 130, 96, 330, 331, 332, 333, 334, 335, 336, 337, 338, 339, 340, 341, 342, 343, 344, 345, 346] (by decide +kernel) (by decide +kernel)
set_option maxRecDepth 20000 in
theorem gL_acts_X5_number : GoodIn wsL_acts (wsV RL 44 RX5 yX5_number wsX5_number) := goodIn_app (goodIn_of _ (by decide +kernel)) ggL_acts_X5_number
set_option maxRecDepth 20000 in
theorem ggL_acts_X5_car : GoodIn wsL_acts wsX5_car := goodIn_r _ [134, 11, 135, 136, 137, 87, 138, 98, 139, 140, 141, 142, 97, 143, 144, 145, 146, 147, 148, 149, 150, 151, 152, 153, 154, 155, 330, 331, 332, 333, 334, 335, 336, 337, 338, 339, 340, 341, 342, 343, 344, 345, 346] (by decide +kernel) (by decide +kernel)
set_option maxRecDepth 20000 in
theorem gL_acts_X5_car : GoodIn wsL_acts (wsV RL 38 RX5 yX5_car wsX5_car) := goodIn_app (goodIn_of _ (by decide +kernel)) ggL_acts_X5_car
set_option maxRecDepth 20000 in
theorem ggL_acts_X5_setNumber : GoodIn wsL_acts wsX5_setNumber := goodIn_r _ [159, 11, 57, 160, 161, 162, 87, 163, 164, 128, 129, 130, 96, 135, 136, 137, 138, 98, 127, 68, 69, 70, 71, 72, 73, 74, 75, 76, 77, 78, 79, 80, 81, 82, 83, 84, 85, 86, 88, 89, 90, 91, 92, 93, 94, 95, 97, 99, 100, 101, 102, 103, 104, 105, 106, 14, 107, 20, 108, 109, 110, 111, 112, 113, 114, 115, 116, 117, 165, 166, 167, 168, 330, 331, 332, 333, 334, 335, 336, 337, 338, 339, 340, 341, 342, 343, 344, 345, 346, 348, 349, 350, 347, 351, 352, 353] (by decide +kernel) (by decide +kernel)
set_option maxRecDepth 20000 in
theorem gL_acts_X5_setNumber : GoodIn wsL_acts (wsV RL 109 RX5 yX5_setNumber wsX5_setNumber) := goodIn_app (goodIn_of _ (by decide +kernel)) ggL_acts_X5_setNumber
set_option maxRecDepth 20000 in
theorem ggL_acts_X5_byHand : GoodIn wsL_acts wsX5_byHand := goodIn_r _ [172, 11, 57, 68, 69, 70, 71, 72, 73, 74, 75, 76, 77, 78, 79, 80, 81, 82, 83, 84, 85, 86, 87, 88, 89, 90, 91, 92, 93, 94, 95, 96, 97, 98, 99, 100, 101, 102, 103, 104, 105, 106, 14, 107, 20, 108, 109, 110, 111, 112, 113, 114, 115, 116, 117, 330, 331, 332, 333, 334, 335, 336, 337, 338, 339, 340, 341, 342, 343, 344, 345, 346, 348, 349, 350, 347, 351, 352, 353] (by decide +kernel) (by decide +kernel)
set_option maxRecDepth 20000 in
theorem gL_acts_X5_byHand : GoodIn wsL_acts (wsV RL 112 RX5 yX5_byHand wsX5_byHand) := goodIn_app (goodIn_of _ (by decide +kernel)) ggL_acts_X5_byHand
set_option maxRecDepth 20000 in
theorem ggL_acts_X5_count : GoodIn wsL_acts wsX5_count := goodIn_r _ [176, 57, 177, 11, 178, 179, 180, 71, 181, 74, 182, 183, 184, 185, 186, 187, 188, 189, 190, 87, 191, 91, 330, 331, 332, 333, 334, 335, 348, 349, 350, 354, 355, 356, 357, 358, 359, 360, 336, 337, 338, 339, 340, 341, 342, 343, 344, 345, 346] (by decide +kernel) (by decide +kernel)
set_option maxRecDepth 20000 in
theorem gL_acts_X5_count : GoodIn wsL_acts (wsV RL 57 RX5 yX5_count wsX5_count) := goodIn_app (goodIn_of _ (by decide +kernel)) ggL_acts_X5_count
set_option maxRecDepth 20000 in
theorem ggL_acts_X5_shift : GoodIn wsL_acts wsX5_shift := goodIn_r _ [195, 11, 57, 196, 197, 198, 87, 199, 101, 89, 102, 143, 136, 137, 138, 98, 200, 201, 202, 14, 203, 204, 17, 18, 19, 20, 68, 69, 70, 71, 72, 73, 74, 75, 76, 77, 78, 79, 80, 81, 82, 83, 84, 85, 86, 88, 90, 91, 92, 93, 94, 95, 96, 97, 99, 100, 103, 104, 105, 106, 107, 108, 109, 110, 111, 112, 113, 114, 115, 116, 117, 205, 206, 207, 208, 209, 210, 211, 212, 213, 214, 215, 216, 217, 218, 219, 220, 221, 189, 190, 191, 164, 128, 129, 130, 222, 223, 224, 225, 226, 227, 228, 229, 230, 330, 331, 332, 333, 334, 335, 336, 337, 338, 339, 340, 341, 342, 343, 344, 345, 346, 347, 348, 349, 350, 351, 352, 353] (by decide +kernel) (by decide +kernel)
set_option maxRecDepth 20000 in
theorem gL_acts_X5_shift : GoodIn wsL_acts (wsV RL 116 RX5 yX5_shift wsX5_shift) := goodIn_app (goodIn_of _ (by decide +kernel)) ggL_acts_X5_shift
set_option maxRecDepth 20000 in
theorem ggL_acts_X5_change : GoodIn wsL_acts wsX5_change := goodIn_r _ [234, 11, 235, 214, 215, 112, 216, 117, 116, 114, 330, 331, 332, 333, 334, 335, 336, 337, 338, 339, 340, 341, 342, 343, 344, 345, 346, 351, 352, 353] (by decide +kernel) (by decide +kernel)
set_option maxRecDepth 20000 in
theorem gL_acts_X5_change : GoodIn wsL_acts (wsV RL 68 RX5 yX5_change wsX5_change) := goodIn_app (goodIn_of _ (by decide +kernel)) ggL_acts_X5_change
set_option maxRecDepth 20000 in
theorem ggL_acts_L_pedal : GoodIn wsL_acts wsL_pedal := goodIn_r _ [238, 239, 240, 241, 242] (by decide +kernel) (by decide +kernel)
set_option maxRecDepth 20000 in
theorem gL_acts_L_pedal : GoodIn wsL_acts (va_wsS RL 81 yL_pedal wsL_pedal) := goodIn_app (goodIn_of _ (by decide +kernel)) ggL_acts_L_pedal
set_option maxRecDepth 20000 in
theorem ggL_acts_X5_drive : GoodIn wsL_acts wsX5_drive := goodIn_r _ [246, 11, 247, 57, 58, 59, 9, 60, 61, 248, 249, 250, 251, 252, 218, 219, 87, 220, 221, 189, 190, 191, 91, 68, 69, 70, 71, 72, 73, 74, 75, 76, 77, 78, 79, 80, 81, 82, 83, 84, 85, 86, 88, 89, 90, 92, 93, 94, 95, 96, 97, 98, 99, 100, 101, 102, 103, 104, 105, 106, 14, 107, 20, 108, 109, 110, 111, 112, 113, 114, 115, 116, 117, 62, 63, 64, 65, 66, 67, 253, 254, 255, 256, 257, 258, 259, 260, 261, 262, 263, 264, 143, 136, 137, 138, 164, 128, 129, 130, 265, 266, 267, 268, 200, 201, 202, 203, 204, 17, 18, 19, 269, 270, 271, 272, 273, 274, 275, 276, 277, 278, 279, 280, 281, 282, 283, 284, 285, 286, 287, 288, 289, 290, 291, 292, 293, 206, 207, 208, 209, 210, 211, 212, 213, 214, 215, 216, 217, 222, 223, 224, 225, 226, 227, 228, 229, 230, 294, 295, 296, 297, 330, 331, 332, 333, 334, 335, 336, 337, 338, 339, 340, 341, 342, 343, 344, 345, 346, 348, 349, 350, 347, 351, 352, 353] (by decide +kernel) (by decide +kernel)
set_option maxRecDepth 20000 in
theorem gL_acts_X5_drive : GoodIn wsL_acts (wsV RL 95 RX5 yX5_drive wsX5_drive) := goodIn_app (goodIn_of _ (by decide +kernel)) ggL_acts_X5_drive
set_option maxRecDepth 20000 in
theorem ggL_acts_L_settles : GoodIn wsL_acts wsL_settles := goodIn_r _ [300, 39, 40, 3, 41, 42, 43, 44, 45, 46, 47, 48, 49, 50, 51, 52, 236, 237, 238, 239, 240, 241, 242, 301, 302, 303, 9, 304, 305, 11, 58, 59, 60, 61, 248, 249, 250, 251, 306, 85, 86, 87, 88, 89, 90, 91, 92, 93, 94, 95, 96, 97, 98, 99, 100, 101, 102, 103, 104, 105, 106, 14, 107, 20, 108, 109, 110, 111, 112, 113, 114, 115, 116, 117, 62, 63, 64, 65, 66, 67, 307, 258, 259, 260, 261, 262, 263, 264, 143, 136, 137, 138, 164, 128, 129, 130, 265, 266, 267, 268, 200, 201, 202, 203, 204, 17, 18, 19, 269, 270, 271, 272, 273, 274, 275, 276, 277, 278, 77, 279, 280, 281, 282, 283, 284, 285, 286, 287, 288, 289, 290, 291, 292, 293, 206, 207, 208, 209, 210, 211, 212, 213, 214, 215, 216, 217, 218, 219, 220, 221, 189, 190, 191, 222, 223, 224, 225, 226, 76, 78, 227, 228, 229, 230, 294, 295, 296, 297, 243, 244, 245, 246, 247, 57, 252, 68, 69, 70, 71, 72, 73, 74, 75, 79, 80, 81, 82, 83, 84, 253, 254, 255, 256, 257, 330, 331, 332, 333, 334, 335, 336, 337, 338, 339, 340, 341, 342, 343, 344, 345, 346, 347, 351, 352, 353, 348, 349, 350] (by decide +kernel) (by decide +kernel)
set_option maxRecDepth 20000 in
theorem gL_acts_L_settles : GoodIn wsL_acts (va_wsS RL 119 yL_settles wsL_settles) := goodIn_app (goodIn_of _ (by decide +kernel)) ggL_acts_L_settles
set_option maxRecDepth 20000 in
set_option maxRecDepth 20000 in
theorem m_ggL_acts_L_tick_wsL_tick_r1 : ∀ w ∈ wsL_tick_r1, w ∈ wsL_acts := (List.forall_mem_cons.mpr ⟨List.mem_of_getElem? (i := 311) rfl, (List.forall_mem_cons.mpr ⟨List.mem_of_getElem? (i := 25) rfl, (List.forall_mem_cons.mpr ⟨List.mem_of_getElem? (i := 26) rfl, (List.forall_mem_cons.mpr ⟨List.mem_of_getElem? (i := 3) rfl, (List.forall_mem_cons.mpr ⟨List.mem_of_getElem? (i := 27) rfl, (List.forall_mem_cons.mpr ⟨List.mem_of_getElem? (i := 28) rfl, (List.forall_mem_cons.mpr ⟨List.mem_of_getElem? (i := 29) rfl, (List.forall_mem_cons.mpr ⟨List.mem_of_getElem? (i := 30) rfl, (List.forall_mem_cons.mpr ⟨List.mem_of_getElem? (i := 31) rfl, (List.forall_mem_cons.mpr ⟨List.mem_of_getElem? (i := 32) rfl, (List.forall_mem_cons.mpr ⟨List.mem_of_getElem? (i := 33) rfl, (List.forall_mem_cons.mpr ⟨List.mem_of_getElem? (i := 34) rfl, (List.forall_mem_cons.mpr ⟨List.mem_of_getElem? (i := 35) rfl, (List.forall_mem_cons.mpr ⟨List.mem_of_getElem? (i := 36) rfl, (List.forall_mem_cons.mpr ⟨List.mem_of_getElem? (i := 37) rfl, (List.forall_mem_cons.mpr ⟨List.mem_of_getElem? (i := 38) rfl, (List.forall_mem_cons.mpr ⟨List.mem_of_getElem? (i := 312) rfl, (List.forall_mem_cons.mpr ⟨List.mem_of_getElem? (i := 313) rfl, (List.forall_mem_cons.mpr ⟨List.mem_of_getElem? (i := 314) rfl, (List.forall_mem_cons.mpr ⟨List.mem_of_getElem? (i := 315) rfl, (List.forall_mem_cons.mpr ⟨List.mem_of_getElem? (i := 316) rfl, (List.forall_mem_cons.mpr ⟨List.mem_of_getElem? (i := 131) rfl, (List.forall_mem_cons.mpr ⟨List.mem_of_getElem? (i := 132) rfl, (List.forall_mem_cons.mpr ⟨List.mem_of_getElem? (i := 133) rfl, (fun _ h => absurd h List.not_mem_nil)⟩)⟩)⟩)⟩)⟩)⟩)⟩)⟩)⟩)⟩)⟩)⟩)⟩)⟩)⟩)⟩)⟩)⟩)⟩)⟩)⟩)⟩)⟩)⟩)
set_option maxRecDepth 20000 in
theorem m_ggL_acts_L_tick_wsL_tick_r2 : ∀ w ∈ wsL_tick_r2, w ∈ wsL_acts := (List.forall_mem_cons.mpr ⟨List.mem_of_getElem? (i := 9) rfl, (List.forall_mem_cons.mpr ⟨List.mem_of_getElem? (i := 134) rfl, (List.forall_mem_cons.mpr ⟨List.mem_of_getElem? (i := 11) rfl, (List.forall_mem_cons.mpr ⟨List.mem_of_getElem? (i := 135) rfl, (List.forall_mem_cons.mpr ⟨List.mem_of_getElem? (i := 136) rfl, (List.forall_mem_cons.mpr ⟨List.mem_of_getElem? (i := 137) rfl, (List.forall_mem_cons.mpr ⟨List.mem_of_getElem? (i := 87) rfl, (List.forall_mem_cons.mpr ⟨List.mem_of_getElem? (i := 138) rfl, (List.forall_mem_cons.mpr ⟨List.mem_of_getElem? (i := 98) rfl, (List.forall_mem_cons.mpr ⟨List.mem_of_getElem? (i := 139) rfl, (List.forall_mem_cons.mpr ⟨List.mem_of_getElem? (i := 140) rfl, (List.forall_mem_cons.mpr ⟨List.mem_of_getElem? (i := 141) rfl, (List.forall_mem_cons.mpr ⟨List.mem_of_getElem? (i := 142) rfl, (List.forall_mem_cons.mpr ⟨List.mem_of_getElem? (i := 97) rfl, (List.forall_mem_cons.mpr ⟨List.mem_of_getElem? (i := 143) rfl, (List.forall_mem_cons.mpr ⟨List.mem_of_getElem? (i := 144) rfl, (List.forall_mem_cons.mpr ⟨List.mem_of_getElem? (i := 145) rfl, (List.forall_mem_cons.mpr ⟨List.mem_of_getElem? (i := 146) rfl, (List.forall_mem_cons.mpr ⟨List.mem_of_getElem? (i := 147) rfl, (List.forall_mem_cons.mpr ⟨List.mem_of_getElem? (i := 148) rfl, (List.forall_mem_cons.mpr ⟨List.mem_of_getElem? (i := 149) rfl, (List.forall_mem_cons.mpr ⟨List.mem_of_getElem? (i := 150) rfl, (List.forall_mem_cons.mpr ⟨List.mem_of_getElem? (i := 151) rfl, (List.forall_mem_cons.mpr ⟨List.mem_of_getElem? (i := 152) rfl, (fun _ h => absurd h List.not_mem_nil)⟩)⟩)⟩)⟩)⟩)⟩)⟩)⟩)⟩)⟩)⟩)⟩)⟩)⟩)⟩)⟩)⟩)⟩)⟩)⟩)⟩)⟩)⟩)⟩)
set_option maxRecDepth 20000 in
theorem m_ggL_acts_L_tick_wsL_tick_r3 : ∀ w ∈ wsL_tick_r3, w ∈ wsL_acts := (List.forall_mem_cons.mpr ⟨List.mem_of_getElem? (i := 153) rfl, (List.forall_mem_cons.mpr ⟨List.mem_of_getElem? (i := 154) rfl, (List.forall_mem_cons.mpr ⟨List.mem_of_getElem? (i := 155) rfl, (List.forall_mem_cons.mpr ⟨List.mem_of_getElem? (i := 39) rfl, (List.forall_mem_cons.mpr ⟨List.mem_of_getElem? (i := 40) rfl, (List.forall_mem_cons.mpr ⟨List.mem_of_getElem? (i := 41) rfl, (List.forall_mem_cons.mpr ⟨List.mem_of_getElem? (i := 42) rfl, (List.forall_mem_cons.mpr ⟨List.mem_of_getElem? (i := 43) rfl, (List.forall_mem_cons.mpr ⟨List.mem_of_getElem? (i := 44) rfl, (List.forall_mem_cons.mpr ⟨List.mem_of_getElem? (i := 45) rfl, (List.forall_mem_cons.mpr ⟨List.mem_of_getElem? (i := 46) rfl, (List.forall_mem_cons.mpr ⟨List.mem_of_getElem? (i := 47) rfl, (List.forall_mem_cons.mpr ⟨List.mem_of_getElem? (i := 48) rfl, (List.forall_mem_cons.mpr ⟨List.mem_of_getElem? (i := 49) rfl, (List.forall_mem_cons.mpr ⟨List.mem_of_getElem? (i := 50) rfl, (List.forall_mem_cons.mpr ⟨List.mem_of_getElem? (i := 51) rfl, (List.forall_mem_cons.mpr ⟨List.mem_of_getElem? (i := 52) rfl, (List.forall_mem_cons.mpr ⟨List.mem_of_getElem? (i := 236) rfl, (List.forall_mem_cons.mpr ⟨List.mem_of_getElem? (i := 237) rfl, (List.forall_mem_cons.mpr ⟨List.mem_of_getElem? (i := 238) rfl, (List.forall_mem_cons.mpr ⟨List.mem_of_getElem? (i := 239) rfl, (List.forall_mem_cons.mpr ⟨List.mem_of_getElem? (i := 240) rfl, (List.forall_mem_cons.mpr ⟨List.mem_of_getElem? (i := 241) rfl, (List.forall_mem_cons.mpr ⟨List.mem_of_getElem? (i := 242) rfl, (fun _ h => absurd h List.not_mem_nil)⟩)⟩)⟩)⟩)⟩)⟩)⟩)⟩)⟩)⟩)⟩)⟩)⟩)⟩)⟩)⟩)⟩)⟩)⟩)⟩)⟩)⟩)⟩)⟩)
set_option maxRecDepth 20000 in
theorem m_ggL_acts_L_tick_wsL_tick_r4 : ∀ w ∈ wsL_tick_r4, w ∈ wsL_acts := (List.forall_mem_cons.mpr ⟨List.mem_of_getElem? (i := 317) rfl, (List.forall_mem_cons.mpr ⟨List.mem_of_getElem? (i := 318) rfl, (List.forall_mem_cons.mpr ⟨List.mem_of_getElem? (i := 319) rfl, (List.forall_mem_cons.mpr ⟨List.mem_of_getElem? (i := 320) rfl, (List.forall_mem_cons.mpr ⟨List.mem_of_getElem? (i := 305) rfl, (List.forall_mem_cons.mpr ⟨List.mem_of_getElem? (i := 58) rfl, (List.forall_mem_cons.mpr ⟨List.mem_of_getElem? (i := 59) rfl, (List.forall_mem_cons.mpr ⟨List.mem_of_getElem? (i := 60) rfl, (List.forall_mem_cons.mpr ⟨List.mem_of_getElem? (i := 61) rfl, (List.forall_mem_cons.mpr ⟨List.mem_of_getElem? (i := 248) rfl, (List.forall_mem_cons.mpr ⟨List.mem_of_getElem? (i := 249) rfl, (List.forall_mem_cons.mpr ⟨List.mem_of_getElem? (i := 250) rfl, (List.forall_mem_cons.mpr ⟨List.mem_of_getElem? (i := 251) rfl, (List.forall_mem_cons.mpr ⟨List.mem_of_getElem? (i := 306) rfl, (List.forall_mem_cons.mpr ⟨List.mem_of_getElem? (i := 85) rfl, (List.forall_mem_cons.mpr ⟨List.mem_of_getElem? (i := 86) rfl, (List.forall_mem_cons.mpr ⟨List.mem_of_getElem? (i := 88) rfl, (List.forall_mem_cons.mpr ⟨List.mem_of_getElem? (i := 89) rfl, (List.forall_mem_cons.mpr ⟨List.mem_of_getElem? (i := 90) rfl, (List.forall_mem_cons.mpr ⟨List.mem_of_getElem? (i := 91) rfl, (List.forall_mem_cons.mpr ⟨List.mem_of_getElem? (i := 92) rfl, (List.forall_mem_cons.mpr ⟨List.mem_of_getElem? (i := 93) rfl, (List.forall_mem_cons.mpr ⟨List.mem_of_getElem? (i := 94) rfl, (List.forall_mem_cons.mpr ⟨List.mem_of_getElem? (i := 95) rfl, (fun _ h => absurd h List.not_mem_nil)⟩)⟩)⟩)⟩)⟩)⟩)⟩)⟩)⟩)⟩)⟩)⟩)⟩)⟩)⟩)⟩)⟩)⟩)⟩)⟩)⟩)⟩)⟩)⟩)
set_option maxRecDepth 20000 in
theorem m_ggL_acts_L_tick_wsL_tick_r5 : ∀ w ∈ wsL_tick_r5, w ∈ wsL_acts := (List.forall_mem_cons.mpr ⟨List.mem_of_getElem? (i := 96) rfl, (List.forall_mem_cons.mpr ⟨List.mem_of_getElem? (i := 99) rfl, (List.forall_mem_cons.mpr ⟨List.mem_of_getElem? (i := 100) rfl, (List.forall_mem_cons.mpr ⟨List.mem_of_getElem? (i := 101) rfl, (List.forall_mem_cons.mpr ⟨List.mem_of_getElem? (i := 102) rfl, (List.forall_mem_cons.mpr ⟨List.mem_of_getElem? (i := 103) rfl, (List.forall_mem_cons.mpr ⟨List.mem_of_getElem? (i := 104) rfl, (List.forall_mem_cons.mpr ⟨List.mem_of_getElem? (i := 105) rfl, (List.forall_mem_cons.mpr ⟨List.mem_of_getElem? (i := 106) rfl, (List.forall_mem_cons.mpr ⟨List.mem_of_getElem? (i := 14) rfl, (List.forall_mem_cons.mpr ⟨List.mem_of_getElem? (i := 107) rfl, (List.forall_mem_cons.mpr ⟨List.mem_of_getElem? (i := 20) rfl, (List.forall_mem_cons.mpr ⟨List.mem_of_getElem? (i := 108) rfl, (List.forall_mem_cons.mpr ⟨List.mem_of_getElem? (i := 109) rfl, (List.forall_mem_cons.mpr ⟨List.mem_of_getElem? (i := 110) rfl, (List.forall_mem_cons.mpr ⟨List.mem_of_getElem? (i := 111) rfl, (List.forall_mem_cons.mpr ⟨List.mem_of_getElem? (i := 112) rfl, (List.forall_mem_cons.mpr ⟨List.mem_of_getElem? (i := 113) rfl, (List.forall_mem_cons.mpr ⟨List.mem_of_getElem? (i := 114) rfl, (List.forall_mem_cons.mpr ⟨List.mem_of_getElem? (i := 115) rfl, (List.forall_mem_cons.mpr ⟨List.mem_of_getElem? (i := 116) rfl, (List.forall_mem_cons.mpr ⟨List.mem_of_getElem? (i := 117) rfl, (List.forall_mem_cons.mpr ⟨List.mem_of_getElem? (i := 62) rfl, (List.forall_mem_cons.mpr ⟨List.mem_of_getElem? (i := 63) rfl, (fun _ h => absurd h List.not_mem_nil)⟩)⟩)⟩)⟩)⟩)⟩)⟩)⟩)⟩)⟩)⟩)⟩)⟩)⟩)⟩)⟩)⟩)⟩)⟩)⟩)⟩)⟩)⟩)⟩)
set_option maxRecDepth 20000 in
theorem m_ggL_acts_L_tick_wsL_tick_r6 : ∀ w ∈ wsL_tick_r6, w ∈ wsL_acts := (List.forall_mem_cons.mpr ⟨List.mem_of_getElem? (i := 64) rfl, (List.forall_mem_cons.mpr ⟨List.mem_of_getElem? (i := 65) rfl, (List.forall_mem_cons.mpr ⟨List.mem_of_getElem? (i := 66) rfl, (List.forall_mem_cons.mpr ⟨List.mem_of_getElem? (i := 67) rfl, (List.forall_mem_cons.mpr ⟨List.mem_of_getElem? (i := 307) rfl, (List.forall_mem_cons.mpr ⟨List.mem_of_getElem? (i := 258) rfl, (List.forall_mem_cons.mpr ⟨List.mem_of_getElem? (i := 259) rfl, (List.forall_mem_cons.mpr ⟨List.mem_of_getElem? (i := 260) rfl, (List.forall_mem_cons.mpr ⟨List.mem_of_getElem? (i := 261) rfl, (List.forall_mem_cons.mpr ⟨List.mem_of_getElem? (i := 262) rfl, (List.forall_mem_cons.mpr ⟨List.mem_of_getElem? (i := 263) rfl, (List.forall_mem_cons.mpr ⟨List.mem_of_getElem? (i := 264) rfl, (List.forall_mem_cons.mpr ⟨List.mem_of_getElem? (i := 164) rfl, (List.forall_mem_cons.mpr ⟨List.mem_of_getElem? (i := 128) rfl, (List.forall_mem_cons.mpr ⟨List.mem_of_getElem? (i := 129) rfl, (List.forall_mem_cons.mpr ⟨List.mem_of_getElem? (i := 130) rfl, (List.forall_mem_cons.mpr ⟨List.mem_of_getElem? (i := 265) rfl, (List.forall_mem_cons.mpr ⟨List.mem_of_getElem? (i := 266) rfl, (List.forall_mem_cons.mpr ⟨List.mem_of_getElem? (i := 267) rfl, (List.forall_mem_cons.mpr ⟨List.mem_of_getElem? (i := 268) rfl, (List.forall_mem_cons.mpr ⟨List.mem_of_getElem? (i := 200) rfl, (List.forall_mem_cons.mpr ⟨List.mem_of_getElem? (i := 201) rfl, (List.forall_mem_cons.mpr ⟨List.mem_of_getElem? (i := 202) rfl, (List.forall_mem_cons.mpr ⟨List.mem_of_getElem? (i := 203) rfl, (fun _ h => absurd h List.not_mem_nil)⟩)⟩)⟩)⟩)⟩)⟩)⟩)⟩)⟩)⟩)⟩)⟩)⟩)⟩)⟩)⟩)⟩)⟩)⟩)⟩)⟩)⟩)⟩)⟩)
set_option maxRecDepth 20000 in
theorem m_ggL_acts_L_tick_wsL_tick_r7 : ∀ w ∈ wsL_tick_r7, w ∈ wsL_acts := (List.forall_mem_cons.mpr ⟨List.mem_of_getElem? (i := 204) rfl, (List.forall_mem_cons.mpr ⟨List.mem_of_getElem? (i := 17) rfl, (List.forall_mem_cons.mpr ⟨List.mem_of_getElem? (i := 18) rfl, (List.forall_mem_cons.mpr ⟨List.mem_of_getElem? (i := 19) rfl, (List.forall_mem_cons.mpr ⟨List.mem_of_getElem? (i := 269) rfl, (List.forall_mem_cons.mpr ⟨List.mem_of_getElem? (i := 270) rfl, (List.forall_mem_cons.mpr ⟨List.mem_of_getElem? (i := 271) rfl, (List.forall_mem_cons.mpr ⟨List.mem_of_getElem? (i := 272) rfl, (List.forall_mem_cons.mpr ⟨List.mem_of_getElem? (i := 273) rfl, (List.forall_mem_cons.mpr ⟨List.mem_of_getElem? (i := 274) rfl, (List.forall_mem_cons.mpr ⟨List.mem_of_getElem? (i := 275) rfl, (List.forall_mem_cons.mpr ⟨List.mem_of_getElem? (i := 276) rfl, (List.forall_mem_cons.mpr ⟨List.mem_of_getElem? (i := 277) rfl, (List.forall_mem_cons.mpr ⟨List.mem_of_getElem? (i := 278) rfl, (List.forall_mem_cons.mpr ⟨List.mem_of_getElem? (i := 77) rfl, (List.forall_mem_cons.mpr ⟨List.mem_of_getElem? (i := 279) rfl, (List.forall_mem_cons.mpr ⟨List.mem_of_getElem? (i := 280) rfl, (List.forall_mem_cons.mpr ⟨List.mem_of_getElem? (i := 281) rfl, (List.forall_mem_cons.mpr ⟨List.mem_of_getElem? (i := 282) rfl, (List.forall_mem_cons.mpr ⟨List.mem_of_getElem? (i := 283) rfl, (List.forall_mem_cons.mpr ⟨List.mem_of_getElem? (i := 284) rfl, (List.forall_mem_cons.mpr ⟨List.mem_of_getElem? (i := 285) rfl, (List.forall_mem_cons.mpr ⟨List.mem_of_getElem? (i := 286) rfl, (List.forall_mem_cons.mpr ⟨List.mem_of_getElem? (i := 287) rfl, (fun _ h => absurd h List.not_mem_nil)⟩)⟩)⟩)⟩)⟩)⟩)⟩)⟩)⟩)⟩)⟩)⟩)⟩)⟩)⟩)⟩)⟩)⟩)⟩)⟩)⟩)⟩)⟩)⟩)
set_option maxRecDepth 20000 in
theorem m_ggL_acts_L_tick_wsL_tick_r8 : ∀ w ∈ wsL_tick_r8, w ∈ wsL_acts := (List.forall_mem_cons.mpr ⟨List.mem_of_getElem? (i := 288) rfl, (List.forall_mem_cons.mpr ⟨List.mem_of_getElem? (i := 289) rfl, (List.forall_mem_cons.mpr ⟨List.mem_of_getElem? (i := 290) rfl, (List.forall_mem_cons.mpr ⟨List.mem_of_getElem? (i := 291) rfl, (List.forall_mem_cons.mpr ⟨List.mem_of_getElem? (i := 292) rfl, (List.forall_mem_cons.mpr ⟨List.mem_of_getElem? (i := 293) rfl, (List.forall_mem_cons.mpr ⟨List.mem_of_getElem? (i := 206) rfl, (List.forall_mem_cons.mpr ⟨List.mem_of_getElem? (i := 207) rfl, (List.forall_mem_cons.mpr ⟨List.mem_of_getElem? (i := 208) rfl, (List.forall_mem_cons.mpr ⟨List.mem_of_getElem? (i := 209) rfl, (List.forall_mem_cons.mpr ⟨List.mem_of_getElem? (i := 210) rfl, (List.forall_mem_cons.mpr ⟨List.mem_of_getElem? (i := 211) rfl, (List.forall_mem_cons.mpr ⟨List.mem_of_getElem? (i := 212) rfl, (List.forall_mem_cons.mpr ⟨List.mem_of_getElem? (i := 213) rfl, (List.forall_mem_cons.mpr ⟨List.mem_of_getElem? (i := 214) rfl, (List.forall_mem_cons.mpr ⟨List.mem_of_getElem? (i := 215) rfl, (List.forall_mem_cons.mpr ⟨List.mem_of_getElem? (i := 216) rfl, (List.forall_mem_cons.mpr ⟨List.mem_of_getElem? (i := 217) rfl, (List.forall_mem_cons.mpr ⟨List.mem_of_getElem? (i := 218) rfl, (List.forall_mem_cons.mpr ⟨List.mem_of_getElem? (i := 219) rfl, (List.forall_mem_cons.mpr ⟨List.mem_of_getElem? (i := 220) rfl, (List.forall_mem_cons.mpr ⟨List.mem_of_getElem? (i := 221) rfl, (List.forall_mem_cons.mpr ⟨List.mem_of_getElem? (i := 189) rfl, (List.forall_mem_cons.mpr ⟨List.mem_of_getElem? (i := 190) rfl, (fun _ h => absurd h List.not_mem_nil)⟩)⟩)⟩)⟩)⟩)⟩)⟩)⟩)⟩)⟩)⟩)⟩)⟩)⟩)⟩)⟩)⟩)⟩)⟩)⟩)⟩)⟩)⟩)⟩)
set_option maxRecDepth 20000 in
theorem m_ggL_acts_L_tick_wsL_tick_r9 : ∀ w ∈ wsL_tick_r9, w ∈ wsL_acts := (List.forall_mem_cons.mpr ⟨List.mem_of_getElem? (i := 191) rfl, (List.forall_mem_cons.mpr ⟨List.mem_of_getElem? (i := 222) rfl, (List.forall_mem_cons.mpr ⟨List.mem_of_getElem? (i := 223) rfl, (List.forall_mem_cons.mpr ⟨List.mem_of_getElem? (i := 224) rfl, (List.forall_mem_cons.mpr ⟨List.mem_of_getElem? (i := 225) rfl, (List.forall_mem_cons.mpr ⟨List.mem_of_getElem? (i := 226) rfl, (List.forall_mem_cons.mpr ⟨List.mem_of_getElem? (i := 76) rfl, (List.forall_mem_cons.mpr ⟨List.mem_of_getElem? (i := 78) rfl, (List.forall_mem_cons.mpr ⟨List.mem_of_getElem? (i := 227) rfl, (List.forall_mem_cons.mpr ⟨List.mem_of_getElem? (i := 228) rfl, (List.forall_mem_cons.mpr ⟨List.mem_of_getElem? (i := 229) rfl, (List.forall_mem_cons.mpr ⟨List.mem_of_getElem? (i := 230) rfl, (List.forall_mem_cons.mpr ⟨List.mem_of_getElem? (i := 294) rfl, (List.forall_mem_cons.mpr ⟨List.mem_of_getElem? (i := 295) rfl, (List.forall_mem_cons.mpr ⟨List.mem_of_getElem? (i := 296) rfl, (List.forall_mem_cons.mpr ⟨List.mem_of_getElem? (i := 297) rfl, (List.forall_mem_cons.mpr ⟨List.mem_of_getElem? (i := 173) rfl, (List.forall_mem_cons.mpr ⟨List.mem_of_getElem? (i := 174) rfl, (List.forall_mem_cons.mpr ⟨List.mem_of_getElem? (i := 175) rfl, (List.forall_mem_cons.mpr ⟨List.mem_of_getElem? (i := 176) rfl, (List.forall_mem_cons.mpr ⟨List.mem_of_getElem? (i := 57) rfl, (List.forall_mem_cons.mpr ⟨List.mem_of_getElem? (i := 177) rfl, (List.forall_mem_cons.mpr ⟨List.mem_of_getElem? (i := 178) rfl, (List.forall_mem_cons.mpr ⟨List.mem_of_getElem? (i := 179) rfl, (fun _ h => absurd h List.not_mem_nil)⟩)⟩)⟩)⟩)⟩)⟩)⟩)⟩)⟩)⟩)⟩)⟩)⟩)⟩)⟩)⟩)⟩)⟩)⟩)⟩)⟩)⟩)⟩)⟩)
set_option maxRecDepth 20000 in
theorem m_ggL_acts_L_tick_wsL_tick_r10 : ∀ w ∈ wsL_tick_r10, w ∈ wsL_acts := (List.forall_mem_cons.mpr ⟨List.mem_of_getElem? (i := 180) rfl, (List.forall_mem_cons.mpr ⟨List.mem_of_getElem? (i := 71) rfl, (List.forall_mem_cons.mpr ⟨List.mem_of_getElem? (i := 181) rfl, (List.forall_mem_cons.mpr ⟨List.mem_of_getElem? (i := 74) rfl, (List.forall_mem_cons.mpr ⟨List.mem_of_getElem? (i := 182) rfl, (List.forall_mem_cons.mpr ⟨List.mem_of_getElem? (i := 183) rfl, (List.forall_mem_cons.mpr ⟨List.mem_of_getElem? (i := 184) rfl, (List.forall_mem_cons.mpr ⟨List.mem_of_getElem? (i := 185) rfl, (List.forall_mem_cons.mpr ⟨List.mem_of_getElem? (i := 186) rfl, (List.forall_mem_cons.mpr ⟨List.mem_of_getElem? (i := 187) rfl, (List.forall_mem_cons.mpr ⟨List.mem_of_getElem? (i := 188) rfl, (List.forall_mem_cons.mpr ⟨List.mem_of_getElem? (i := 123) rfl, (List.forall_mem_cons.mpr ⟨List.mem_of_getElem? (i := 124) rfl, (List.forall_mem_cons.mpr ⟨List.mem_of_getElem? (i := 125) rfl, (List.forall_mem_cons.mpr ⟨List.mem_of_getElem? (i := 126) rfl, (List.forall_mem_cons.mpr ⟨List.mem_of_getElem? (i := 127) rfl, (List.forall_mem_cons.mpr ⟨List.mem_of_getElem? (i := 6) rfl, (List.forall_mem_cons.mpr ⟨List.mem_of_getElem? (i := 7) rfl, (List.forall_mem_cons.mpr ⟨List.mem_of_getElem? (i := 8) rfl, (List.forall_mem_cons.mpr ⟨List.mem_of_getElem? (i := 10) rfl, (List.forall_mem_cons.mpr ⟨List.mem_of_getElem? (i := 12) rfl, (List.forall_mem_cons.mpr ⟨List.mem_of_getElem? (i := 13) rfl, (List.forall_mem_cons.mpr ⟨List.mem_of_getElem? (i := 15) rfl, (List.forall_mem_cons.mpr ⟨List.mem_of_getElem? (i := 16) rfl, (fun _ h => absurd h List.not_mem_nil)⟩)⟩)⟩)⟩)⟩)⟩)⟩)⟩)⟩)⟩)⟩)⟩)⟩)⟩)⟩)⟩)⟩)⟩)⟩)⟩)⟩)⟩)⟩)⟩)
set_option maxRecDepth 20000 in
theorem m_ggL_acts_L_tick_wsL_tick_r11 : ∀ w ∈ wsL_tick_r11, w ∈ wsL_acts := (List.forall_mem_cons.mpr ⟨List.mem_of_getElem? (i := 21) rfl, (List.forall_mem_cons.mpr ⟨List.mem_of_getElem? (i := 22) rfl, (List.forall_mem_cons.mpr ⟨List.mem_of_getElem? (i := 23) rfl, (List.forall_mem_cons.mpr ⟨List.mem_of_getElem? (i := 24) rfl, (List.forall_mem_cons.mpr ⟨List.mem_of_getElem? (i := 321) rfl, (List.forall_mem_cons.mpr ⟨List.mem_of_getElem? (i := 322) rfl, (List.forall_mem_cons.mpr ⟨List.mem_of_getElem? (i := 323) rfl, (List.forall_mem_cons.mpr ⟨List.mem_of_getElem? (i := 324) rfl, (List.forall_mem_cons.mpr ⟨List.mem_of_getElem? (i := 325) rfl, (List.forall_mem_cons.mpr ⟨List.mem_of_getElem? (i := 326) rfl, (List.forall_mem_cons.mpr ⟨List.mem_of_getElem? (i := 243) rfl, (List.forall_mem_cons.mpr ⟨List.mem_of_getElem? (i := 244) rfl, (List.forall_mem_cons.mpr ⟨List.mem_of_getElem? (i := 245) rfl, (List.forall_mem_cons.mpr ⟨List.mem_of_getElem? (i := 246) rfl, (List.forall_mem_cons.mpr ⟨List.mem_of_getElem? (i := 247) rfl, (List.forall_mem_cons.mpr ⟨List.mem_of_getElem? (i := 252) rfl, (List.forall_mem_cons.mpr ⟨List.mem_of_getElem? (i := 68) rfl, (List.forall_mem_cons.mpr ⟨List.mem_of_getElem? (i := 69) rfl, (List.forall_mem_cons.mpr ⟨List.mem_of_getElem? (i := 70) rfl, (List.forall_mem_cons.mpr ⟨List.mem_of_getElem? (i := 72) rfl, (List.forall_mem_cons.mpr ⟨List.mem_of_getElem? (i := 73) rfl, (List.forall_mem_cons.mpr ⟨List.mem_of_getElem? (i := 75) rfl, (List.forall_mem_cons.mpr ⟨List.mem_of_getElem? (i := 79) rfl, (List.forall_mem_cons.mpr ⟨List.mem_of_getElem? (i := 80) rfl, (fun _ h => absurd h List.not_mem_nil)⟩)⟩)⟩)⟩)⟩)⟩)⟩)⟩)⟩)⟩)⟩)⟩)⟩)⟩)⟩)⟩)⟩)⟩)⟩)⟩)⟩)⟩)⟩)⟩)
set_option maxRecDepth 20000 in
theorem m_ggL_acts_L_tick_wsL_tick_r12 : ∀ w ∈ wsL_tick_r12, w ∈ wsL_acts := (List.forall_mem_cons.mpr ⟨List.mem_of_getElem? (i := 81) rfl, (List.forall_mem_cons.mpr ⟨List.mem_of_getElem? (i := 82) rfl, (List.forall_mem_cons.mpr ⟨List.mem_of_getElem? (i := 83) rfl, (List.forall_mem_cons.mpr ⟨List.mem_of_getElem? (i := 84) rfl, (List.forall_mem_cons.mpr ⟨List.mem_of_getElem? (i := 253) rfl, (List.forall_mem_cons.mpr ⟨List.mem_of_getElem? (i := 254) rfl, (List.forall_mem_cons.mpr ⟨List.mem_of_getElem? (i := 255) rfl, (List.forall_mem_cons.mpr ⟨List.mem_of_getElem? (i := 256) rfl, (List.forall_mem_cons.mpr ⟨List.mem_of_getElem? (i := 257) rfl, (List.forall_mem_cons.mpr ⟨List.mem_of_getElem? (i := 231) rfl, (List.forall_mem_cons.mpr ⟨List.mem_of_getElem? (i := 232) rfl, (List.forall_mem_cons.mpr ⟨List.mem_of_getElem? (i := 233) rfl, (List.forall_mem_cons.mpr ⟨List.mem_of_getElem? (i := 234) rfl, (List.forall_mem_cons.mpr ⟨List.mem_of_getElem? (i := 235) rfl, (List.forall_mem_cons.mpr ⟨List.mem_of_getElem? (i := 327) rfl, (List.forall_mem_cons.mpr ⟨List.mem_of_getElem? (i := 328) rfl, (List.forall_mem_cons.mpr ⟨List.mem_of_getElem? (i := 329) rfl, (fun _ h => absurd h List.not_mem_nil)⟩)⟩)⟩)⟩)⟩)⟩)⟩)⟩)⟩)⟩)⟩)⟩)⟩)⟩)⟩)⟩)⟩)
set_option maxRecDepth 20000 in
theorem ggL_acts_L_tick : GoodIn wsL_acts wsL_tick := goodIn_sub (List.forall_mem_cons.mpr ⟨List.mem_of_getElem? (i := 310) rfl, (List.forall_mem_append.mpr ⟨(List.forall_mem_append.mpr ⟨(List.forall_mem_append.mpr ⟨(List.forall_mem_append.mpr ⟨(List.forall_mem_append.mpr ⟨(List.forall_mem_append.mpr ⟨(List.forall_mem_append.mpr ⟨m_ggL_acts_L_tick_wsL_tick_r1, (List.forall_mem_append.mpr ⟨m_ggL_acts_L_tick_wsL_tick_r2, (List.forall_mem_append.mpr ⟨m_ggL_acts_L_tick_wsL_tick_r3, (List.forall_mem_append.mpr ⟨m_ggL_acts_L_tick_wsL_tick_r4, (List.forall_mem_append.mpr ⟨m_ggL_acts_L_tick_wsL_tick_r5, (List.forall_mem_append.mpr ⟨m_ggL_acts_L_tick_wsL_tick_r6, (List.forall_mem_append.mpr ⟨m_ggL_acts_L_tick_wsL_tick_r7, (List.forall_mem_append.mpr ⟨m_ggL_acts_L_tick_wsL_tick_r8, (List.forall_mem_append.mpr ⟨m_ggL_acts_L_tick_wsL_tick_r9, (List.forall_mem_append.mpr ⟨m_ggL_acts_L_tick_wsL_tick_r10, (List.forall_mem_append.mpr ⟨m_ggL_acts_L_tick_wsL_tick_r11, m_ggL_acts_L_tick_wsL_tick_r12⟩)⟩)⟩)⟩)⟩)⟩)⟩)⟩)⟩)⟩)⟩), (uin_at (us := wsX50) 330 rfl)⟩), (uin_at (us := wsX40) 336 rfl)⟩), (uin_at (us := wsX30) 347 rfl)⟩), (uin_at (us := wsX20) 351 rfl)⟩), (uin_at (us := wsX10) 348 rfl)⟩), (uin_at (us := wsX00) 354 rfl)⟩)⟩) (by decide +kernel)
set_option maxRecDepth 20000 in
theorem gL_acts_L_tick : GoodIn wsL_acts (va_wsS RL 123 yL_tick wsL_tick) := goodIn_app (goodIn_of _ (by decide +kernel)) ggL_acts_L_tick
theorem dL_acts_0 : decode cL_acts 0 = .ok (.iload_n 1, 1) := by decide +kernel
theorem dL_acts_1 : decode cL_acts 1 = .ok (.bipush 12, 2) := by decide +kernel
theorem dL_acts_3 : decode cL_acts 3 = .ok (.invokestatic 103, 3) := by decide +kernel
theorem dL_acts_6 : decode cL_acts 6 = .ok (.tableswitch 756 0 5 #[38, 184, 349, 426, 591, 719], 38) := by decide +kernel
theorem dL_acts_44 : decode cL_acts 44 = .ok (.iconst 1, 1) := by decide +kernel
theorem dL_acts_45 : decode cL_acts 45 = .ok (.iload_n 2, 1) := by decide +kernel
theorem dL_acts_46 : decode cL_acts 46 = .ok (.iconst 5, 1) := by decide +kernel
theorem dL_acts_47 : decode cL_acts 47 = .ok (.invokestatic 103, 3) := by decide +kernel
theorem dL_acts_50 : decode cL_acts 50 = .ok (.iadd, 1) := by decide +kernel
theorem dL_acts_51 : decode cL_acts 51 = .ok (.istore_n 3, 1) := by decide +kernel
theorem dL_acts_52 : decode cL_acts 52 = .ok (.iload_n 2, 1) := by decide +kernel
theorem dL_acts_53 : decode cL_acts 53 = .ok (.iconst 3, 1) := by decide +kernel
theorem dL_acts_54 : decode cL_acts 54 = .ok (.ishr, 1) := by decide +kernel
theorem dL_acts_55 : decode cL_acts 55 = .ok (.iconst 4, 1) := by decide +kernel
theorem dL_acts_56 : decode cL_acts 56 = .ok (.invokestatic 103, 3) := by decide +kernel
theorem dL_acts_59 : decode cL_acts 59 = .ok (.istore 4, 2) := by decide +kernel
theorem dL_acts_61 : decode cL_acts 61 = .ok (.iload_n 2, 1) := by decide +kernel
theorem dL_acts_62 : decode cL_acts 62 = .ok (.iconst 5, 1) := by decide +kernel
theorem dL_acts_63 : decode cL_acts 63 = .ok (.ishr, 1) := by decide +kernel
theorem dL_acts_64 : decode cL_acts 64 = .ok (.bipush 12, 2) := by decide +kernel
theorem dL_acts_66 : decode cL_acts 66 = .ok (.invokestatic 103, 3) := by decide +kernel
theorem dL_acts_69 : decode cL_acts 69 = .ok (.istore 5, 2) := by decide +kernel
theorem dL_acts_71 : decode cL_acts 71 = .ok (.iload_n 3, 1) := by decide +kernel
theorem dL_acts_72 : decode cL_acts 72 = .ok (.iconst 5, 1) := by decide +kernel
theorem dL_acts_73 : decode cL_acts 73 = .ok (.if_icmp .ne 13, 3) := by decide +kernel
theorem dL_acts_76 : decode cL_acts 76 = .ok (.iload 4, 2) := by decide +kernel
theorem dL_acts_78 : decode cL_acts 78 = .ok (.iconst 3, 1) := by decide +kernel
theorem dL_acts_79 : decode cL_acts 79 = .ok (.if_icmp .ge 7, 3) := by decide +kernel
theorem dL_acts_82 : decode cL_acts 82 = .ok (.iconst 1, 1) := by decide +kernel
theorem dL_acts_83 : decode cL_acts 83 = .ok (.goto 4, 3) := by decide +kernel
theorem dL_acts_86 : decode cL_acts 86 = .ok (.iconst 0, 1) := by decide +kernel
theorem dL_acts_87 : decode cL_acts 87 = .ok (.istore 6, 2) := by decide +kernel
theorem dL_acts_89 : decode cL_acts 89 = .ok (.iload 6, 2) := by decide +kernel
theorem dL_acts_91 : decode cL_acts 91 = .ok (.ifCond .ne 23, 3) := by decide +kernel
theorem dL_acts_94 : decode cL_acts 94 = .ok (.aload_n 0, 1) := by decide +kernel
theorem dL_acts_95 : decode cL_acts 95 = .ok (.iload_n 3, 1) := by decide +kernel
theorem dL_acts_96 : decode cL_acts 96 = .ok (.iload 4, 2) := by decide +kernel
theorem dL_acts_98 : decode cL_acts 98 = .ok (.invokevirtual 87, 3) := by decide +kernel
theorem dL_acts_101 : decode cL_acts 101 = .ok (.iload 5, 2) := by decide +kernel
theorem dL_acts_103 : decode cL_acts 103 = .ok (.invokestatic 72, 3) := by decide +kernel
theorem dL_acts_106 : decode cL_acts 106 = .ok (.fcmp .l, 1) := by decide +kernel
theorem dL_acts_107 : decode cL_acts 107 = .ok (.ifCond .ne 7, 3) := by decide +kernel
theorem dL_acts_110 : decode cL_acts 110 = .ok (.iconst 1, 1) := by decide +kernel
theorem dL_acts_111 : decode cL_acts 111 = .ok (.goto 4, 3) := by decide +kernel
theorem dL_acts_114 : decode cL_acts 114 = .ok (.iconst 0, 1) := by decide +kernel
theorem dL_acts_115 : decode cL_acts 115 = .ok (.istore 7, 2) := by decide +kernel
theorem dL_acts_117 : decode cL_acts 117 = .ok (.iload_n 2, 1) := by decide +kernel
theorem dL_acts_118 : decode cL_acts 118 = .ok (.bipush 9, 2) := by decide +kernel
theorem dL_acts_120 : decode cL_acts 120 = .ok (.ishr, 1) := by decide +kernel
theorem dL_acts_121 : decode cL_acts 121 = .ok (.iconst 3, 1) := by decide +kernel
theorem dL_acts_122 : decode cL_acts 122 = .ok (.invokestatic 103, 3) := by decide +kernel
theorem dL_acts_125 : decode cL_acts 125 = .ok (.ifCond .gt 59, 3) := by decide +kernel
theorem dL_acts_128 : decode cL_acts 128 = .ok (.aload_n 0, 1) := by decide +kernel
theorem dL_acts_129 : decode cL_acts 129 = .ok (.iload_n 3, 1) := by decide +kernel
theorem dL_acts_130 : decode cL_acts 130 = .ok (.iload 4, 2) := by decide +kernel
theorem dL_acts_132 : decode cL_acts 132 = .ok (.iload 5, 2) := by decide +kernel
theorem dL_acts_134 : decode cL_acts 134 = .ok (.invokestatic 78, 3) := by decide +kernel
theorem dL_acts_137 : decode cL_acts 137 = .ok (.invokevirtual 106, 3) := by decide +kernel
theorem dL_acts_140 : decode cL_acts 140 = .ok (.iload 6, 2) := by decide +kernel
theorem dL_acts_142 : decode cL_acts 142 = .ok (.ifCond .eq 7, 3) := by decide +kernel
theorem dL_acts_145 : decode cL_acts 145 = .ok (.iconst (-1), 1) := by decide +kernel
theorem dL_acts_146 : decode cL_acts 146 = .ok (.goto 14, 3) := by decide +kernel
theorem dL_acts_149 : decode cL_acts 149 = .ok (.iload 7, 2) := by decide +kernel
theorem dL_acts_151 : decode cL_acts 151 = .ok (.ifCond .eq 8, 3) := by decide +kernel
theorem dL_acts_154 : decode cL_acts 154 = .ok (.bipush (-5), 2) := by decide +kernel
theorem dL_acts_156 : decode cL_acts 156 = .ok (.goto 4, 3) := by decide +kernel
theorem dL_acts_159 : decode cL_acts 159 = .ok (.iconst 1, 1) := by decide +kernel
theorem dL_acts_160 : decode cL_acts 160 = .ok (.if_icmp .ne 28, 3) := by decide +kernel
theorem dL_acts_163 : decode cL_acts 163 = .ok (.iload 6, 2) := by decide +kernel
theorem dL_acts_165 : decode cL_acts 165 = .ok (.ifCond .ne 19, 3) := by decide +kernel
theorem dL_acts_168 : decode cL_acts 168 = .ok (.aload_n 0, 1) := by decide +kernel
theorem dL_acts_169 : decode cL_acts 169 = .ok (.iload_n 3, 1) := by decide +kernel
theorem dL_acts_170 : decode cL_acts 170 = .ok (.iload 4, 2) := by decide +kernel
theorem dL_acts_172 : decode cL_acts 172 = .ok (.invokevirtual 87, 3) := by decide +kernel
theorem dL_acts_175 : decode cL_acts 175 = .ok (.iload 5, 2) := by decide +kernel
theorem dL_acts_177 : decode cL_acts 177 = .ok (.invokestatic 72, 3) := by decide +kernel
theorem dL_acts_180 : decode cL_acts 180 = .ok (.fcmp .l, 1) := by decide +kernel
theorem dL_acts_181 : decode cL_acts 181 = .ok (.ifCond .ne 7, 3) := by decide +kernel
theorem dL_acts_184 : decode cL_acts 184 = .ok (.iconst 1, 1) := by decide +kernel
theorem dL_acts_185 : decode cL_acts 185 = .ok (.goto 4, 3) := by decide +kernel
theorem dL_acts_188 : decode cL_acts 188 = .ok (.iconst 0, 1) := by decide +kernel
theorem dL_acts_189 : decode cL_acts 189 = .ok (.ireturn, 1) := by decide +kernel
theorem dL_acts_190 : decode cL_acts 190 = .ok (.iload_n 2, 1) := by decide +kernel
theorem dL_acts_191 : decode cL_acts 191 = .ok (.iconst 4, 1) := by decide +kernel
theorem dL_acts_192 : decode cL_acts 192 = .ok (.invokestatic 103, 3) := by decide +kernel
theorem dL_acts_195 : decode cL_acts 195 = .ok (.istore_n 3, 1) := by decide +kernel
theorem dL_acts_196 : decode cL_acts 196 = .ok (.iload_n 3, 1) := by decide +kernel
theorem dL_acts_197 : decode cL_acts 197 = .ok (.ifCond .ne 16, 3) := by decide +kernel
theorem dL_acts_200 : decode cL_acts 200 = .ok (.iconst 2, 1) := by decide +kernel
theorem dL_acts_201 : decode cL_acts 201 = .ok (.iload_n 2, 1) := by decide +kernel
theorem dL_acts_202 : decode cL_acts 202 = .ok (.iconst 2, 1) := by decide +kernel
theorem dL_acts_203 : decode cL_acts 203 = .ok (.ishr, 1) := by decide +kernel
theorem dL_acts_204 : decode cL_acts 204 = .ok (.bipush 8, 2) := by decide +kernel
theorem dL_acts_206 : decode cL_acts 206 = .ok (.invokestatic 103, 3) := by decide +kernel
theorem dL_acts_209 : decode cL_acts 209 = .ok (.iadd, 1) := by decide +kernel
theorem dL_acts_210 : decode cL_acts 210 = .ok (.goto 28, 3) := by decide +kernel
theorem dL_acts_213 : decode cL_acts 213 = .ok (.iload_n 3, 1) := by decide +kernel
theorem dL_acts_214 : decode cL_acts 214 = .ok (.iconst 1, 1) := by decide +kernel
theorem dL_acts_215 : decode cL_acts 215 = .ok (.if_icmp .ne 13, 3) := by decide +kernel
theorem dL_acts_218 : decode cL_acts 218 = .ok (.iload_n 2, 1) := by decide +kernel
theorem dL_acts_219 : decode cL_acts 219 = .ok (.iconst 2, 1) := by decide +kernel
theorem dL_acts_220 : decode cL_acts 220 = .ok (.ishr, 1) := by decide +kernel
theorem dL_acts_221 : decode cL_acts 221 = .ok (.iconst 4, 1) := by decide +kernel
theorem dL_acts_222 : decode cL_acts 222 = .ok (.invokestatic 103, 3) := by decide +kernel
theorem dL_acts_225 : decode cL_acts 225 = .ok (.goto 13, 3) := by decide +kernel
theorem dL_acts_228 : decode cL_acts 228 = .ok (.iconst 1, 1) := by decide +kernel
theorem dL_acts_229 : decode cL_acts 229 = .ok (.iload_n 2, 1) := by decide +kernel
theorem dL_acts_230 : decode cL_acts 230 = .ok (.iconst 2, 1) := by decide +kernel
theorem dL_acts_231 : decode cL_acts 231 = .ok (.ishr, 1) := by decide +kernel
theorem dL_acts_232 : decode cL_acts 232 = .ok (.bipush 100, 2) := by decide +kernel
theorem dL_acts_234 : decode cL_acts 234 = .ok (.invokestatic 103, 3) := by decide +kernel
theorem dL_acts_237 : decode cL_acts 237 = .ok (.iadd, 1) := by decide +kernel
theorem dL_acts_238 : decode cL_acts 238 = .ok (.istore 4, 2) := by decide +kernel
theorem dL_acts_240 : decode cL_acts 240 = .ok (.aload_n 0, 1) := by decide +kernel
theorem dL_acts_241 : decode cL_acts 241 = .ok (.iload_n 3, 1) := by decide +kernel
theorem dL_acts_242 : decode cL_acts 242 = .ok (.invokevirtual 44, 3) := by decide +kernel
theorem dL_acts_245 : decode cL_acts 245 = .ok (.istore 5, 2) := by decide +kernel
theorem dL_acts_247 : decode cL_acts 247 = .ok (.iload_n 3, 1) := by decide +kernel
theorem dL_acts_248 : decode cL_acts 248 = .ok (.ifCond .ne 13, 3) := by decide +kernel
theorem dL_acts_251 : decode cL_acts 251 = .ok (.iload 4, 2) := by decide +kernel
theorem dL_acts_253 : decode cL_acts 253 = .ok (.aload_n 0, 1) := by decide +kernel
theorem dL_acts_254 : decode cL_acts 254 = .ok (.iconst 1, 1) := by decide +kernel
theorem dL_acts_255 : decode cL_acts 255 = .ok (.invokevirtual 44, 3) := by decide +kernel
theorem dL_acts_258 : decode cL_acts 258 = .ok (.if_icmp .le 18, 3) := by decide +kernel
theorem dL_acts_261 : decode cL_acts 261 = .ok (.iload_n 3, 1) := by decide +kernel
theorem dL_acts_262 : decode cL_acts 262 = .ok (.iconst 1, 1) := by decide +kernel
theorem dL_acts_263 : decode cL_acts 263 = .ok (.if_icmp .ne 17, 3) := by decide +kernel
theorem dL_acts_266 : decode cL_acts 266 = .ok (.iload 4, 2) := by decide +kernel
theorem dL_acts_268 : decode cL_acts 268 = .ok (.aload_n 0, 1) := by decide +kernel
theorem dL_acts_269 : decode cL_acts 269 = .ok (.iconst 0, 1) := by decide +kernel
theorem dL_acts_270 : decode cL_acts 270 = .ok (.invokevirtual 44, 3) := by decide +kernel
theorem dL_acts_273 : decode cL_acts 273 = .ok (.if_icmp .lt 7, 3) := by decide +kernel
theorem dL_acts_276 : decode cL_acts 276 = .ok (.iconst 1, 1) := by decide +kernel
theorem dL_acts_277 : decode cL_acts 277 = .ok (.goto 4, 3) := by decide +kernel
theorem dL_acts_280 : decode cL_acts 280 = .ok (.iconst 0, 1) := by decide +kernel
theorem dL_acts_281 : decode cL_acts 281 = .ok (.istore 6, 2) := by decide +kernel
theorem dL_acts_283 : decode cL_acts 283 = .ok (.iload_n 3, 1) := by decide +kernel
theorem dL_acts_284 : decode cL_acts 284 = .ok (.iconst 2, 1) := by decide +kernel
theorem dL_acts_285 : decode cL_acts 285 = .ok (.if_icmp .ge 17, 3) := by decide +kernel
theorem dL_acts_288 : decode cL_acts 288 = .ok (.aload_n 0, 1) := by decide +kernel
theorem dL_acts_289 : decode cL_acts 289 = .ok (.iconst 1, 1) := by decide +kernel
theorem dL_acts_290 : decode cL_acts 290 = .ok (.invokevirtual 38, 3) := by decide +kernel
theorem dL_acts_293 : decode cL_acts 293 = .ok (.bipush (-5), 2) := by decide +kernel
theorem dL_acts_295 : decode cL_acts 295 = .ok (.if_icmp .eq 7, 3) := by decide +kernel
theorem dL_acts_298 : decode cL_acts 298 = .ok (.iconst 1, 1) := by decide +kernel
theorem dL_acts_299 : decode cL_acts 299 = .ok (.goto 4, 3) := by decide +kernel
theorem dL_acts_302 : decode cL_acts 302 = .ok (.iconst 0, 1) := by decide +kernel
theorem dL_acts_303 : decode cL_acts 303 = .ok (.istore 7, 2) := by decide +kernel
theorem dL_acts_305 : decode cL_acts 305 = .ok (.aload_n 0, 1) := by decide +kernel
theorem dL_acts_306 : decode cL_acts 306 = .ok (.iload_n 3, 1) := by decide +kernel
theorem dL_acts_307 : decode cL_acts 307 = .ok (.iload 4, 2) := by decide +kernel
theorem dL_acts_309 : decode cL_acts 309 = .ok (.invokevirtual 109, 3) := by decide +kernel
theorem dL_acts_312 : decode cL_acts 312 = .ok (.iload 6, 2) := by decide +kernel
theorem dL_acts_314 : decode cL_acts 314 = .ok (.ifCond .eq 8, 3) := by decide +kernel
theorem dL_acts_317 : decode cL_acts 317 = .ok (.bipush (-2), 2) := by decide +kernel
theorem dL_acts_319 : decode cL_acts 319 = .ok (.goto 27, 3) := by decide +kernel
theorem dL_acts_322 : decode cL_acts 322 = .ok (.iload 7, 2) := by decide +kernel
theorem dL_acts_324 : decode cL_acts 324 = .ok (.ifCond .eq 8, 3) := by decide +kernel
theorem dL_acts_327 : decode cL_acts 327 = .ok (.bipush (-4), 2) := by decide +kernel
theorem dL_acts_329 : decode cL_acts 329 = .ok (.goto 17, 3) := by decide +kernel
theorem dL_acts_332 : decode cL_acts 332 = .ok (.iload 5, 2) := by decide +kernel
theorem dL_acts_334 : decode cL_acts 334 = .ok (.iload 4, 2) := by decide +kernel
theorem dL_acts_336 : decode cL_acts 336 = .ok (.if_icmp .ne 8, 3) := by decide +kernel
theorem dL_acts_339 : decode cL_acts 339 = .ok (.bipush (-5), 2) := by decide +kernel
theorem dL_acts_341 : decode cL_acts 341 = .ok (.goto 5, 3) := by decide +kernel
theorem dL_acts_344 : decode cL_acts 344 = .ok (.iload 5, 2) := by decide +kernel
theorem dL_acts_346 : decode cL_acts 346 = .ok (.if_icmp .ne 7, 3) := by decide +kernel
theorem dL_acts_349 : decode cL_acts 349 = .ok (.iconst 1, 1) := by decide +kernel
theorem dL_acts_350 : decode cL_acts 350 = .ok (.goto 4, 3) := by decide +kernel
theorem dL_acts_353 : decode cL_acts 353 = .ok (.iconst 0, 1) := by decide +kernel
theorem dL_acts_354 : decode cL_acts 354 = .ok (.ireturn, 1) := by decide +kernel
theorem dL_acts_355 : decode cL_acts 355 = .ok (.iload_n 2, 1) := by decide +kernel
theorem dL_acts_356 : decode cL_acts 356 = .ok (.iconst 3, 1) := by decide +kernel
theorem dL_acts_357 : decode cL_acts 357 = .ok (.invokestatic 103, 3) := by decide +kernel
theorem dL_acts_360 : decode cL_acts 360 = .ok (.ifCond .ne 7, 3) := by decide +kernel
theorem dL_acts_363 : decode cL_acts 363 = .ok (.iconst 1, 1) := by decide +kernel
theorem dL_acts_364 : decode cL_acts 364 = .ok (.goto 4, 3) := by decide +kernel
theorem dL_acts_367 : decode cL_acts 367 = .ok (.iconst 0, 1) := by decide +kernel
theorem dL_acts_368 : decode cL_acts 368 = .ok (.istore_n 3, 1) := by decide +kernel
theorem dL_acts_369 : decode cL_acts 369 = .ok (.aload_n 0, 1) := by decide +kernel
theorem dL_acts_370 : decode cL_acts 370 = .ok (.iconst 4, 1) := by decide +kernel
theorem dL_acts_371 : decode cL_acts 371 = .ok (.invokevirtual 38, 3) := by decide +kernel
theorem dL_acts_374 : decode cL_acts 374 = .ok (.istore 4, 2) := by decide +kernel
theorem dL_acts_376 : decode cL_acts 376 = .ok (.aload_n 0, 1) := by decide +kernel
theorem dL_acts_377 : decode cL_acts 377 = .ok (.iload_n 3, 1) := by decide +kernel
theorem dL_acts_378 : decode cL_acts 378 = .ok (.invokevirtual 112, 3) := by decide +kernel
theorem dL_acts_381 : decode cL_acts 381 = .ok (.iload 4, 2) := by decide +kernel
theorem dL_acts_383 : decode cL_acts 383 = .ok (.iconst 1, 1) := by decide +kernel
theorem dL_acts_384 : decode cL_acts 384 = .ok (.if_icmp .ne 7, 3) := by decide +kernel
theorem dL_acts_387 : decode cL_acts 387 = .ok (.iconst 1, 1) := by decide +kernel
theorem dL_acts_388 : decode cL_acts 388 = .ok (.goto 4, 3) := by decide +kernel
theorem dL_acts_391 : decode cL_acts 391 = .ok (.iconst 0, 1) := by decide +kernel
theorem dL_acts_392 : decode cL_acts 392 = .ok (.iload_n 3, 1) := by decide +kernel
theorem dL_acts_393 : decode cL_acts 393 = .ok (.if_icmp .ne 8, 3) := by decide +kernel
theorem dL_acts_396 : decode cL_acts 396 = .ok (.bipush (-5), 2) := by decide +kernel
theorem dL_acts_398 : decode cL_acts 398 = .ok (.goto 8, 3) := by decide +kernel
theorem dL_acts_401 : decode cL_acts 401 = .ok (.aload_n 0, 1) := by decide +kernel
theorem dL_acts_402 : decode cL_acts 402 = .ok (.iconst 0, 1) := by decide +kernel
theorem dL_acts_403 : decode cL_acts 403 = .ok (.invokevirtual 38, 3) := by decide +kernel
theorem dL_acts_406 : decode cL_acts 406 = .ok (.if_icmp .ne 24, 3) := by decide +kernel
theorem dL_acts_409 : decode cL_acts 409 = .ok (.aload_n 0, 1) := by decide +kernel
theorem dL_acts_410 : decode cL_acts 410 = .ok (.iconst 4, 1) := by decide +kernel
theorem dL_acts_411 : decode cL_acts 411 = .ok (.invokevirtual 38, 3) := by decide +kernel
theorem dL_acts_414 : decode cL_acts 414 = .ok (.iload_n 3, 1) := by decide +kernel
theorem dL_acts_415 : decode cL_acts 415 = .ok (.ifCond .eq 7, 3) := by decide +kernel
theorem dL_acts_418 : decode cL_acts 418 = .ok (.iconst 1, 1) := by decide +kernel
theorem dL_acts_419 : decode cL_acts 419 = .ok (.goto 4, 3) := by decide +kernel
theorem dL_acts_422 : decode cL_acts 422 = .ok (.iconst 0, 1) := by decide +kernel
theorem dL_acts_423 : decode cL_acts 423 = .ok (.if_icmp .ne 7, 3) := by decide +kernel
theorem dL_acts_426 : decode cL_acts 426 = .ok (.iconst 1, 1) := by decide +kernel
theorem dL_acts_427 : decode cL_acts 427 = .ok (.goto 4, 3) := by decide +kernel
theorem dL_acts_430 : decode cL_acts 430 = .ok (.iconst 0, 1) := by decide +kernel
theorem dL_acts_431 : decode cL_acts 431 = .ok (.ireturn, 1) := by decide +kernel
theorem dL_acts_432 : decode cL_acts 432 = .ok (.iload_n 2, 1) := by decide +kernel
theorem dL_acts_433 : decode cL_acts 433 = .ok (.iconst 2, 1) := by decide +kernel
theorem dL_acts_434 : decode cL_acts 434 = .ok (.invokestatic 103, 3) := by decide +kernel
theorem dL_acts_437 : decode cL_acts 437 = .ok (.ifCond .ne 7, 3) := by decide +kernel
theorem dL_acts_440 : decode cL_acts 440 = .ok (.iconst 1, 1) := by decide +kernel
theorem dL_acts_441 : decode cL_acts 441 = .ok (.goto 4, 3) := by decide +kernel
theorem dL_acts_444 : decode cL_acts 444 = .ok (.iconst 0, 1) := by decide +kernel
theorem dL_acts_445 : decode cL_acts 445 = .ok (.istore_n 3, 1) := by decide +kernel
theorem dL_acts_446 : decode cL_acts 446 = .ok (.aload_n 0, 1) := by decide +kernel
theorem dL_acts_447 : decode cL_acts 447 = .ok (.iconst 0, 1) := by decide +kernel
theorem dL_acts_448 : decode cL_acts 448 = .ok (.invokevirtual 38, 3) := by decide +kernel
theorem dL_acts_451 : decode cL_acts 451 = .ok (.iload_n 3, 1) := by decide +kernel
theorem dL_acts_452 : decode cL_acts 452 = .ok (.ifCond .eq 7, 3) := by decide +kernel
theorem dL_acts_455 : decode cL_acts 455 = .ok (.iconst 1, 1) := by decide +kernel
theorem dL_acts_456 : decode cL_acts 456 = .ok (.goto 4, 3) := by decide +kernel
theorem dL_acts_459 : decode cL_acts 459 = .ok (.iconst (-1), 1) := by decide +kernel
theorem dL_acts_460 : decode cL_acts 460 = .ok (.iadd, 1) := by decide +kernel
theorem dL_acts_461 : decode cL_acts 461 = .ok (.istore 4, 2) := by decide +kernel
theorem dL_acts_463 : decode cL_acts 463 = .ok (.aload_n 0, 1) := by decide +kernel
theorem dL_acts_464 : decode cL_acts 464 = .ok (.iconst 4, 1) := by decide +kernel
theorem dL_acts_465 : decode cL_acts 465 = .ok (.invokevirtual 38, 3) := by decide +kernel
theorem dL_acts_468 : decode cL_acts 468 = .ok (.iconst 1, 1) := by decide +kernel
theorem dL_acts_469 : decode cL_acts 469 = .ok (.if_icmp .ne 29, 3) := by decide +kernel
theorem dL_acts_472 : decode cL_acts 472 = .ok (.aload_n 0, 1) := by decide +kernel
theorem dL_acts_473 : decode cL_acts 473 = .ok (.iconst 1, 1) := by decide +kernel
theorem dL_acts_474 : decode cL_acts 474 = .ok (.invokevirtual 38, 3) := by decide +kernel
theorem dL_acts_477 : decode cL_acts 477 = .ok (.bipush (-5), 2) := by decide +kernel
theorem dL_acts_479 : decode cL_acts 479 = .ok (.if_icmp .ne 19, 3) := by decide +kernel
theorem dL_acts_482 : decode cL_acts 482 = .ok (.iload 4, 2) := by decide +kernel
theorem dL_acts_484 : decode cL_acts 484 = .ok (.ifCond .le 14, 3) := by decide +kernel
theorem dL_acts_487 : decode cL_acts 487 = .ok (.iload 4, 2) := by decide +kernel
theorem dL_acts_489 : decode cL_acts 489 = .ok (.bipush 6, 2) := by decide +kernel
theorem dL_acts_491 : decode cL_acts 491 = .ok (.if_icmp .ge 7, 3) := by decide +kernel
theorem dL_acts_494 : decode cL_acts 494 = .ok (.iconst 1, 1) := by decide +kernel
theorem dL_acts_495 : decode cL_acts 495 = .ok (.goto 4, 3) := by decide +kernel
theorem dL_acts_498 : decode cL_acts 498 = .ok (.iconst 0, 1) := by decide +kernel
theorem dL_acts_499 : decode cL_acts 499 = .ok (.istore 5, 2) := by decide +kernel
theorem dL_acts_501 : decode cL_acts 501 = .ok (.aload_n 0, 1) := by decide +kernel
theorem dL_acts_502 : decode cL_acts 502 = .ok (.iconst 4, 1) := by decide +kernel
theorem dL_acts_503 : decode cL_acts 503 = .ok (.invokevirtual 57, 3) := by decide +kernel
theorem dL_acts_506 : decode cL_acts 506 = .ok (.istore 6, 2) := by decide +kernel
theorem dL_acts_508 : decode cL_acts 508 = .ok (.aload_n 0, 1) := by decide +kernel
theorem dL_acts_509 : decode cL_acts 509 = .ok (.iload_n 3, 1) := by decide +kernel
theorem dL_acts_510 : decode cL_acts 510 = .ok (.invokevirtual 116, 3) := by decide +kernel
theorem dL_acts_513 : decode cL_acts 513 = .ok (.istore 7, 2) := by decide +kernel
theorem dL_acts_515 : decode cL_acts 515 = .ok (.iload 5, 2) := by decide +kernel
theorem dL_acts_517 : decode cL_acts 517 = .ok (.ifCond .eq 67, 3) := by decide +kernel
theorem dL_acts_520 : decode cL_acts 520 = .ok (.iload 7, 2) := by decide +kernel
theorem dL_acts_522 : decode cL_acts 522 = .ok (.iload 4, 2) := by decide +kernel
theorem dL_acts_524 : decode cL_acts 524 = .ok (.if_icmp .ne 35, 3) := by decide +kernel
theorem dL_acts_527 : decode cL_acts 527 = .ok (.aload_n 0, 1) := by decide +kernel
theorem dL_acts_528 : decode cL_acts 528 = .ok (.iconst 1, 1) := by decide +kernel
theorem dL_acts_529 : decode cL_acts 529 = .ok (.invokevirtual 38, 3) := by decide +kernel
theorem dL_acts_532 : decode cL_acts 532 = .ok (.iload 4, 2) := by decide +kernel
theorem dL_acts_534 : decode cL_acts 534 = .ok (.if_icmp .ne 25, 3) := by decide +kernel
theorem dL_acts_537 : decode cL_acts 537 = .ok (.aload_n 0, 1) := by decide +kernel
theorem dL_acts_538 : decode cL_acts 538 = .ok (.iconst 4, 1) := by decide +kernel
theorem dL_acts_539 : decode cL_acts 539 = .ok (.invokevirtual 57, 3) := by decide +kernel
theorem dL_acts_542 : decode cL_acts 542 = .ok (.iload 6, 2) := by decide +kernel
theorem dL_acts_544 : decode cL_acts 544 = .ok (.iconst 1, 1) := by decide +kernel
theorem dL_acts_545 : decode cL_acts 545 = .ok (.iadd, 1) := by decide +kernel
theorem dL_acts_546 : decode cL_acts 546 = .ok (.if_icmp .ne 13, 3) := by decide +kernel
theorem dL_acts_549 : decode cL_acts 549 = .ok (.aload_n 0, 1) := by decide +kernel
theorem dL_acts_550 : decode cL_acts 550 = .ok (.iconst 0, 1) := by decide +kernel
theorem dL_acts_551 : decode cL_acts 551 = .ok (.iconst 3, 1) := by decide +kernel
theorem dL_acts_552 : decode cL_acts 552 = .ok (.invokevirtual 68, 3) := by decide +kernel
theorem dL_acts_555 : decode cL_acts 555 = .ok (.iconst 3, 1) := by decide +kernel
theorem dL_acts_556 : decode cL_acts 556 = .ok (.if_icmp .eq 20, 3) := by decide +kernel
theorem dL_acts_559 : decode cL_acts 559 = .ok (.iload 7, 2) := by decide +kernel
theorem dL_acts_561 : decode cL_acts 561 = .ok (.bipush (-4), 2) := by decide +kernel
theorem dL_acts_563 : decode cL_acts 563 = .ok (.if_icmp .ne 17, 3) := by decide +kernel
theorem dL_acts_566 : decode cL_acts 566 = .ok (.aload_n 0, 1) := by decide +kernel
theorem dL_acts_567 : decode cL_acts 567 = .ok (.iconst 4, 1) := by decide +kernel
theorem dL_acts_568 : decode cL_acts 568 = .ok (.invokevirtual 57, 3) := by decide +kernel
theorem dL_acts_571 : decode cL_acts 571 = .ok (.iload 6, 2) := by decide +kernel
theorem dL_acts_573 : decode cL_acts 573 = .ok (.if_icmp .ne 7, 3) := by decide +kernel
theorem dL_acts_576 : decode cL_acts 576 = .ok (.iconst 1, 1) := by decide +kernel
theorem dL_acts_577 : decode cL_acts 577 = .ok (.goto 19, 3) := by decide +kernel
theorem dL_acts_580 : decode cL_acts 580 = .ok (.iconst 0, 1) := by decide +kernel
theorem dL_acts_581 : decode cL_acts 581 = .ok (.goto 15, 3) := by decide +kernel
theorem dL_acts_584 : decode cL_acts 584 = .ok (.iload 7, 2) := by decide +kernel
theorem dL_acts_586 : decode cL_acts 586 = .ok (.bipush (-4), 2) := by decide +kernel
theorem dL_acts_588 : decode cL_acts 588 = .ok (.if_icmp .ne 7, 3) := by decide +kernel
theorem dL_acts_591 : decode cL_acts 591 = .ok (.iconst 1, 1) := by decide +kernel
theorem dL_acts_592 : decode cL_acts 592 = .ok (.goto 4, 3) := by decide +kernel
theorem dL_acts_595 : decode cL_acts 595 = .ok (.iconst 0, 1) := by decide +kernel
theorem dL_acts_596 : decode cL_acts 596 = .ok (.ireturn, 1) := by decide +kernel
theorem dL_acts_597 : decode cL_acts 597 = .ok (.iload_n 2, 1) := by decide +kernel
theorem dL_acts_598 : decode cL_acts 598 = .ok (.bipush 12, 2) := by decide +kernel
theorem dL_acts_600 : decode cL_acts 600 = .ok (.invokestatic 103, 3) := by decide +kernel
theorem dL_acts_603 : decode cL_acts 603 = .ok (.istore_n 3, 1) := by decide +kernel
theorem dL_acts_604 : decode cL_acts 604 = .ok (.iload_n 2, 1) := by decide +kernel
theorem dL_acts_605 : decode cL_acts 605 = .ok (.iconst 4, 1) := by decide +kernel
theorem dL_acts_606 : decode cL_acts 606 = .ok (.ishr, 1) := by decide +kernel
theorem dL_acts_607 : decode cL_acts 607 = .ok (.iconst 5, 1) := by decide +kernel
theorem dL_acts_608 : decode cL_acts 608 = .ok (.invokestatic 103, 3) := by decide +kernel
theorem dL_acts_611 : decode cL_acts 611 = .ok (.istore 4, 2) := by decide +kernel
theorem dL_acts_613 : decode cL_acts 613 = .ok (.iconst 1, 1) := by decide +kernel
theorem dL_acts_614 : decode cL_acts 614 = .ok (.iload_n 2, 1) := by decide +kernel
theorem dL_acts_615 : decode cL_acts 615 = .ok (.bipush 7, 2) := by decide +kernel
theorem dL_acts_617 : decode cL_acts 617 = .ok (.ishr, 1) := by decide +kernel
theorem dL_acts_618 : decode cL_acts 618 = .ok (.bipush 30, 2) := by decide +kernel
theorem dL_acts_620 : decode cL_acts 620 = .ok (.invokestatic 103, 3) := by decide +kernel
theorem dL_acts_623 : decode cL_acts 623 = .ok (.iadd, 1) := by decide +kernel
theorem dL_acts_624 : decode cL_acts 624 = .ok (.istore 5, 2) := by decide +kernel
theorem dL_acts_626 : decode cL_acts 626 = .ok (.aload_n 0, 1) := by decide +kernel
theorem dL_acts_627 : decode cL_acts 627 = .ok (.iconst 0, 1) := by decide +kernel
theorem dL_acts_628 : decode cL_acts 628 = .ok (.invokevirtual 57, 3) := by decide +kernel
theorem dL_acts_631 : decode cL_acts 631 = .ok (.istore 6, 2) := by decide +kernel
theorem dL_acts_633 : decode cL_acts 633 = .ok (.aload_n 0, 1) := by decide +kernel
theorem dL_acts_634 : decode cL_acts 634 = .ok (.iconst 1, 1) := by decide +kernel
theorem dL_acts_635 : decode cL_acts 635 = .ok (.invokevirtual 57, 3) := by decide +kernel
theorem dL_acts_638 : decode cL_acts 638 = .ok (.aload_n 0, 1) := by decide +kernel
theorem dL_acts_639 : decode cL_acts 639 = .ok (.iconst 2, 1) := by decide +kernel
theorem dL_acts_640 : decode cL_acts 640 = .ok (.invokevirtual 57, 3) := by decide +kernel
theorem dL_acts_643 : decode cL_acts 643 = .ok (.iadd, 1) := by decide +kernel
theorem dL_acts_644 : decode cL_acts 644 = .ok (.aload_n 0, 1) := by decide +kernel
theorem dL_acts_645 : decode cL_acts 645 = .ok (.iconst 3, 1) := by decide +kernel
theorem dL_acts_646 : decode cL_acts 646 = .ok (.invokevirtual 57, 3) := by decide +kernel
theorem dL_acts_649 : decode cL_acts 649 = .ok (.iadd, 1) := by decide +kernel
theorem dL_acts_650 : decode cL_acts 650 = .ok (.aload_n 0, 1) := by decide +kernel
theorem dL_acts_651 : decode cL_acts 651 = .ok (.iconst 5, 1) := by decide +kernel
theorem dL_acts_652 : decode cL_acts 652 = .ok (.invokevirtual 57, 3) := by decide +kernel
theorem dL_acts_655 : decode cL_acts 655 = .ok (.iadd, 1) := by decide +kernel
theorem dL_acts_656 : decode cL_acts 656 = .ok (.istore 7, 2) := by decide +kernel
theorem dL_acts_658 : decode cL_acts 658 = .ok (.aload_n 0, 1) := by decide +kernel
theorem dL_acts_659 : decode cL_acts 659 = .ok (.iload_n 3, 1) := by decide +kernel
theorem dL_acts_660 : decode cL_acts 660 = .ok (.invokestatic 78, 3) := by decide +kernel
theorem dL_acts_663 : decode cL_acts 663 = .ok (.iload 4, 2) := by decide +kernel
theorem dL_acts_665 : decode cL_acts 665 = .ok (.invokestatic 81, 3) := by decide +kernel
theorem dL_acts_668 : decode cL_acts 668 = .ok (.iload 5, 2) := by decide +kernel
theorem dL_acts_670 : decode cL_acts 670 = .ok (.invokevirtual 95, 3) := by decide +kernel
theorem dL_acts_673 : decode cL_acts 673 = .ok (.istore 8, 2) := by decide +kernel
theorem dL_acts_675 : decode cL_acts 675 = .ok (.aload_n 0, 1) := by decide +kernel
theorem dL_acts_676 : decode cL_acts 676 = .ok (.iconst 0, 1) := by decide +kernel
theorem dL_acts_677 : decode cL_acts 677 = .ok (.invokevirtual 57, 3) := by decide +kernel
theorem dL_acts_680 : decode cL_acts 680 = .ok (.iload 6, 2) := by decide +kernel
theorem dL_acts_682 : decode cL_acts 682 = .ok (.iload 5, 2) := by decide +kernel
theorem dL_acts_684 : decode cL_acts 684 = .ok (.iadd, 1) := by decide +kernel
theorem dL_acts_685 : decode cL_acts 685 = .ok (.if_icmp .ne 38, 3) := by decide +kernel
theorem dL_acts_688 : decode cL_acts 688 = .ok (.aload_n 0, 1) := by decide +kernel
theorem dL_acts_689 : decode cL_acts 689 = .ok (.iconst 1, 1) := by decide +kernel
theorem dL_acts_690 : decode cL_acts 690 = .ok (.invokevirtual 57, 3) := by decide +kernel
theorem dL_acts_693 : decode cL_acts 693 = .ok (.aload_n 0, 1) := by decide +kernel
theorem dL_acts_694 : decode cL_acts 694 = .ok (.iconst 2, 1) := by decide +kernel
theorem dL_acts_695 : decode cL_acts 695 = .ok (.invokevirtual 57, 3) := by decide +kernel
theorem dL_acts_698 : decode cL_acts 698 = .ok (.iadd, 1) := by decide +kernel
theorem dL_acts_699 : decode cL_acts 699 = .ok (.aload_n 0, 1) := by decide +kernel
theorem dL_acts_700 : decode cL_acts 700 = .ok (.iconst 3, 1) := by decide +kernel
theorem dL_acts_701 : decode cL_acts 701 = .ok (.invokevirtual 57, 3) := by decide +kernel
theorem dL_acts_704 : decode cL_acts 704 = .ok (.iadd, 1) := by decide +kernel
theorem dL_acts_705 : decode cL_acts 705 = .ok (.aload_n 0, 1) := by decide +kernel
theorem dL_acts_706 : decode cL_acts 706 = .ok (.iconst 5, 1) := by decide +kernel
theorem dL_acts_707 : decode cL_acts 707 = .ok (.invokevirtual 57, 3) := by decide +kernel
theorem dL_acts_710 : decode cL_acts 710 = .ok (.iadd, 1) := by decide +kernel
theorem dL_acts_711 : decode cL_acts 711 = .ok (.iload 7, 2) := by decide +kernel
theorem dL_acts_713 : decode cL_acts 713 = .ok (.iload 8, 2) := by decide +kernel
theorem dL_acts_715 : decode cL_acts 715 = .ok (.iadd, 1) := by decide +kernel
theorem dL_acts_716 : decode cL_acts 716 = .ok (.if_icmp .ne 7, 3) := by decide +kernel
theorem dL_acts_719 : decode cL_acts 719 = .ok (.iconst 1, 1) := by decide +kernel
theorem dL_acts_720 : decode cL_acts 720 = .ok (.goto 4, 3) := by decide +kernel
theorem dL_acts_723 : decode cL_acts 723 = .ok (.iconst 0, 1) := by decide +kernel
theorem dL_acts_724 : decode cL_acts 724 = .ok (.ireturn, 1) := by decide +kernel
theorem dL_acts_725 : decode cL_acts 725 = .ok (.iload_n 2, 1) := by decide +kernel
theorem dL_acts_726 : decode cL_acts 726 = .ok (.iconst 3, 1) := by decide +kernel
theorem dL_acts_727 : decode cL_acts 727 = .ok (.invokestatic 103, 3) := by decide +kernel
theorem dL_acts_730 : decode cL_acts 730 = .ok (.ifCond .gt 26, 3) := by decide +kernel
theorem dL_acts_733 : decode cL_acts 733 = .ok (.aload_n 0, 1) := by decide +kernel
theorem dL_acts_734 : decode cL_acts 734 = .ok (.iload_n 2, 1) := by decide +kernel
theorem dL_acts_735 : decode cL_acts 735 = .ok (.iconst 2, 1) := by decide +kernel
theorem dL_acts_736 : decode cL_acts 736 = .ok (.ishr, 1) := by decide +kernel
theorem dL_acts_737 : decode cL_acts 737 = .ok (.bipush 12, 2) := by decide +kernel
theorem dL_acts_739 : decode cL_acts 739 = .ok (.invokestatic 103, 3) := by decide +kernel
theorem dL_acts_742 : decode cL_acts 742 = .ok (.iload_n 2, 1) := by decide +kernel
theorem dL_acts_743 : decode cL_acts 743 = .ok (.bipush 6, 2) := by decide +kernel
theorem dL_acts_745 : decode cL_acts 745 = .ok (.ishr, 1) := by decide +kernel
theorem dL_acts_746 : decode cL_acts 746 = .ok (.iconst 5, 1) := by decide +kernel
theorem dL_acts_747 : decode cL_acts 747 = .ok (.invokestatic 103, 3) := by decide +kernel
theorem dL_acts_750 : decode cL_acts 750 = .ok (.invokestatic 119, 3) := by decide +kernel
theorem dL_acts_753 : decode cL_acts 753 = .ok (.ifCond .eq 7, 3) := by decide +kernel
theorem dL_acts_756 : decode cL_acts 756 = .ok (.iconst 1, 1) := by decide +kernel
theorem dL_acts_757 : decode cL_acts 757 = .ok (.goto 4, 3) := by decide +kernel
theorem dL_acts_760 : decode cL_acts 760 = .ok (.iconst 0, 1) := by decide +kernel
theorem dL_acts_761 : decode cL_acts 761 = .ok (.ireturn, 1) := by decide +kernel
theorem dL_acts_762 : decode cL_acts 762 = .ok (.aload_n 0, 1) := by decide +kernel
