/-! the words of throws -/
set_option maxRecDepth 100000 in
theorem th56 : z_thr 56 60 "java/lang/IllegalStateException" := ⟨by decide +kernel, (z_Tof (List.mem_of_getElem? (i := 129) (by decide +kernel)) (by decide +kernel)), (z_Tof (List.mem_of_getElem? (i := 19) (by decide +kernel)) (by decide +kernel)), by decide +kernel, by decide +kernel, by decide +kernel, by decide +kernel⟩
set_option maxRecDepth 100000 in
theorem th69 : z_thr 69 73 "java/lang/IllegalArgumentException" := ⟨by decide +kernel, (z_Tof (List.mem_of_getElem? (i := 261) (by decide +kernel)) (by decide +kernel)), (z_Tof (List.mem_of_getElem? (i := 22) (by decide +kernel)) (by decide +kernel)), by decide +kernel, by decide +kernel, by decide +kernel, by decide +kernel⟩
set_option maxRecDepth 100000 in
theorem th218 : z_thr 218 222 "java/lang/IndexOutOfBoundsException" := ⟨by decide +kernel, (z_Tof (List.mem_of_getElem? (i := 245) (by decide +kernel)) (by decide +kernel)), (z_Tof (List.mem_of_getElem? (i := 21) (by decide +kernel)) (by decide +kernel)), by decide +kernel, by decide +kernel, by decide +kernel, by decide +kernel⟩
theorem sr58 : (RX5, 58, "there are as many players as there may be") ∈ z_strs := by decide +kernel
theorem sr71 : (RX5, 71, "a game is of two unlike players") ∈ z_strs := by decide +kernel
theorem sr78 : (RX5, 78, "a game goes on") ∈ z_strs := by decide +kernel
theorem sr83 : (RX5, 83, "there were as many games as there may be") ∈ z_strs := by decide +kernel
theorem sr88 : (RX5, 88, "no game goes on") ∈ z_strs := by decide +kernel
theorem sr94 : (RX5, 94, "the game has as many moves as it may have") ∈ z_strs := by decide +kernel
theorem sr106 : (RX5, 106, "result is out of range") ∈ z_strs := by decide +kernel
theorem sr153 : (RX5, 153, "the player has tried the puzzle") ∈ z_strs := by decide +kernel
theorem sr168 : (RX5, 168, "theme is out of range") ∈ z_strs := by decide +kernel
theorem sr204 : (RX5, 204, "the player would have no game") ∈ z_strs := by decide +kernel
theorem sr210 : (RX5, 210, "position is out of range") ∈ z_strs := by decide +kernel
theorem sr212 : (RX5, 212, "move is out of range") ∈ z_strs := by decide +kernel
theorem sr214 : (RX5, 214, "moves is out of range") ∈ z_strs := by decide +kernel
theorem sr216 : (RX5, 216, "line is out of range") ∈ z_strs := by decide +kernel
theorem sr220 : (RX5, 220, "there is no such player") ∈ z_strs := by decide +kernel
theorem sr223 : (RX5, 223, "there is no such puzzle") ∈ z_strs := by decide +kernel
