section SITES
/-- the texts of the exceptions, and Throwable's two statics -/
def zx_ok (G : jk_G) : Prop := ∀ s, jk_Z G s → (vx_Zq Bundle.tN "UNASSIGNED_STACK" Bundle.steD (jk_A G) s s.heap ∧ vx_Zq Bundle.tN "SUPPRESSED_SENTINEL" Bundle.listD (jk_A G) s s.heap) ∧ (∃ sa, vk_R "LevelingNetwork" 171 "the benchmark is free" sa s) ∧ (∃ sa, vk_R "LevelingNetwork" 186 "the tree has no fixed benchmark" sa s) ∧ (∃ sa, vk_R "LevelingNetwork" 191 "there is no such rank" sa s) ∧ (∃ sa, vk_R "LevelingNetwork" 217 "the line has no backward run" sa s) ∧ (∃ sa, vk_R "LevelingNetwork" 234 "the length is not between 0 and 800" sa s) ∧ (∃ sa, vk_R "LevelingNetwork" 262 "there is no such position" sa s) ∧ (∃ sa, vk_R "LevelingNetwork" 302 "the profile has no such column" sa s) ∧ (∃ sa, vk_R "LevelingNetwork" 323 "the profile has no stations" sa s) ∧ (∃ sa, vk_R "LevelingNetwork" 333 "there are no usable lines" sa s) ∧ (∃ sa, vk_R "LevelingNetwork" 339 "there are no lines" sa s) ∧ (∃ sa, vk_R "LevelingNetwork" 372 "there is no such character" sa s) ∧ (∃ sa, vk_R "LevelingNetwork" 378 "the character code is not between 32 and 126" sa s) ∧ (∃ sa, vk_R "LevelingNetwork" 383 "the script buffer is full" sa s) ∧ (∃ sa, vk_R "LevelingNetwork" 396 "the script does not have the required form" sa s) ∧ (∃ sa, vk_R "LevelingNetwork" 404 "a command of the script failed" sa s) ∧ (∃ sa, vk_R "LevelingNetwork" 412 "there was no malformed script" sa s) ∧ (∃ sa, vk_R "LevelingNetwork" 414 "there was no failed command" sa s) ∧ (∃ sa, vk_R "LevelingNetwork" 417 "there is nothing to undo" sa s) ∧ (∃ sa, vk_R "LevelingNetwork" 426 "there is no snapshot" sa s) ∧ (∃ sa, vk_R "LevelingNetwork" 449 "there is no such index" sa s) ∧ (∃ sa, vk_R "LevelingNetwork" 451 "an argument is out of its range" sa s) ∧ (∃ sa, vk_R "LevelingNetwork" 453 "the state does not allow this change" sa s) ∧ (∃ sa, vk_R "LevelingNetwork" 455 "the line closes no loop" sa s) ∧ (∃ sa, vk_R "LevelingNetwork" 459 "the misclosure exceeds the tolerance" sa s) ∧ (∃ sa, vk_R "LevelingNetwork" 465 "there is no such benchmark" sa s) ∧ (∃ sa, vk_R "LevelingNetwork" 470 "there is no such line" sa s) ∧ (∃ sa, vk_R "LevelingNetwork" 475 "there is no such profile" sa s) ∧ (∃ sa, vk_R "LevelingNetwork" 477 "the benchmark has no height" sa s)
theorem jt_w173 : ∀ w ∈ vx_atX "LevelingNetwork" 173 "java/util/NoSuchElementException" 13 prog_44_method_4_code ["java/lang/RuntimeException", "java/lang/Exception"], w ∈ jk_WS ∧ vx_ot w = true := by
  have h : (vx_atX "LevelingNetwork" 173 "java/util/NoSuchElementException" 13 prog_44_method_4_code ["java/lang/RuntimeException", "java/lang/Exception"]).all (fun w => decide (w ∈ lw_tbl) && jk_kw w && vx_ot w) = true := by decide +kernel
  intro w hw
  have := List.all_eq_true.mp h w hw
  simp only [Bool.and_eq_true, decide_eq_true_eq] at this
  exact ⟨jk_ws this.1.1 this.1.2, this.2⟩
theorem jt_w236 : ∀ w ∈ vx_atS "LevelingNetwork" 236 "java/lang/IllegalArgumentException" ["java/lang/RuntimeException", "java/lang/Exception"], w ∈ jk_WS ∧ vx_ot w = true := by
  have h : (vx_atS "LevelingNetwork" 236 "java/lang/IllegalArgumentException" ["java/lang/RuntimeException", "java/lang/Exception"]).all (fun w => decide (w ∈ lw_tbl) && jk_kw w && vx_ot w) = true := by decide +kernel
  intro w hw
  have := List.all_eq_true.mp h w hw
  simp only [Bool.and_eq_true, decide_eq_true_eq] at this
  exact ⟨jk_ws this.1.1 this.1.2, this.2⟩
theorem jt_w335 : ∀ w ∈ vx_atS "LevelingNetwork" 335 "java/lang/ArithmeticException" ["java/lang/RuntimeException", "java/lang/Exception"], w ∈ jk_WS ∧ vx_ot w = true := by
  have h : (vx_atS "LevelingNetwork" 335 "java/lang/ArithmeticException" ["java/lang/RuntimeException", "java/lang/Exception"]).all (fun w => decide (w ∈ lw_tbl) && jk_kw w && vx_ot w) = true := by decide +kernel
  intro w hw
  have := List.all_eq_true.mp h w hw
  simp only [Bool.and_eq_true, decide_eq_true_eq] at this
  exact ⟨jk_ws this.1.1 this.1.2, this.2⟩
theorem jt_w374 : ∀ w ∈ vx_atS "LevelingNetwork" 374 "java/lang/IndexOutOfBoundsException" ["java/lang/RuntimeException", "java/lang/Exception"], w ∈ jk_WS ∧ vx_ot w = true := by
  have h : (vx_atS "LevelingNetwork" 374 "java/lang/IndexOutOfBoundsException" ["java/lang/RuntimeException", "java/lang/Exception"]).all (fun w => decide (w ∈ lw_tbl) && jk_kw w && vx_ot w) = true := by decide +kernel
  intro w hw
  have := List.all_eq_true.mp h w hw
  simp only [Bool.and_eq_true, decide_eq_true_eq] at this
  exact ⟨jk_ws this.1.1 this.1.2, this.2⟩
theorem jt_w385 : ∀ w ∈ vx_atS "LevelingNetwork" 385 "java/lang/IllegalStateException" ["java/lang/RuntimeException", "java/lang/Exception"], w ∈ jk_WS ∧ vx_ot w = true := by
  have h : (vx_atS "LevelingNetwork" 385 "java/lang/IllegalStateException" ["java/lang/RuntimeException", "java/lang/Exception"]).all (fun w => decide (w ∈ lw_tbl) && jk_kw w && vx_ot w) = true := by decide +kernel
  intro w hw
  have := List.all_eq_true.mp h w hw
  simp only [Bool.and_eq_true, decide_eq_true_eq] at this
  exact ⟨jk_ws this.1.1 this.1.2, this.2⟩
theorem jt_w461 : ∀ w ∈ vx_atS "LevelingNetwork" 461 "java/lang/UnsupportedOperationException" ["java/lang/RuntimeException", "java/lang/Exception"], w ∈ jk_WS ∧ vx_ot w = true := by
  have h : (vx_atS "LevelingNetwork" 461 "java/lang/UnsupportedOperationException" ["java/lang/RuntimeException", "java/lang/Exception"]).all (fun w => decide (w ∈ lw_tbl) && jk_kw w && vx_ot w) = true := by decide +kernel
  intro w hw
  have := List.all_eq_true.mp h w hw
  simp only [Bool.and_eq_true, decide_eq_true_eq] at this
  exact ⟨jk_ws this.1.1 this.1.2, this.2⟩
theorem jt_171_173 {G : jk_G} (hx : zx_ok G) : jk_thWX G "LevelingNetwork" 171 173 169 13 prog_44_method_4_code "java/util/NoSuchElementException" "the benchmark is free" ["java/lang/RuntimeException", "java/lang/Exception"] := ⟨jw_694, jw_27, fun w hw => (jt_w173 w hw).1, fun w hw => by
    rcases List.mem_cons.mp hw with rfl | hw
    · decide +kernel
    · rcases List.mem_cons.mp hw with rfl | hw
      · decide +kernel
      · exact (jt_w173 w hw).2, by decide +kernel, by decide +kernel, fun s h => ⟨(hx s h).2.1, (hx s h).1.1, (hx s h).1.2⟩, by decide +kernel, by decide +kernel, by decide +kernel, by decide +kernel⟩
theorem jt_186_173 {G : jk_G} (hx : zx_ok G) : jk_thWX G "LevelingNetwork" 186 173 169 13 prog_44_method_4_code "java/util/NoSuchElementException" "the tree has no fixed benchmark" ["java/lang/RuntimeException", "java/lang/Exception"] := ⟨jw_694, jw_27, fun w hw => (jt_w173 w hw).1, fun w hw => by
    rcases List.mem_cons.mp hw with rfl | hw
    · decide +kernel
    · rcases List.mem_cons.mp hw with rfl | hw
      · decide +kernel
      · exact (jt_w173 w hw).2, by decide +kernel, by decide +kernel, fun s h => ⟨(hx s h).2.2.1, (hx s h).1.1, (hx s h).1.2⟩, by decide +kernel, by decide +kernel, by decide +kernel, by decide +kernel⟩
theorem jt_191_173 {G : jk_G} (hx : zx_ok G) : jk_thWX G "LevelingNetwork" 191 173 169 13 prog_44_method_4_code "java/util/NoSuchElementException" "there is no such rank" ["java/lang/RuntimeException", "java/lang/Exception"] := ⟨jw_694, jw_27, fun w hw => (jt_w173 w hw).1, fun w hw => by
    rcases List.mem_cons.mp hw with rfl | hw
    · decide +kernel
    · rcases List.mem_cons.mp hw with rfl | hw
      · decide +kernel
      · exact (jt_w173 w hw).2, by decide +kernel, by decide +kernel, fun s h => ⟨(hx s h).2.2.2.1, (hx s h).1.1, (hx s h).1.2⟩, by decide +kernel, by decide +kernel, by decide +kernel, by decide +kernel⟩
theorem jt_217_173 {G : jk_G} (hx : zx_ok G) : jk_thWX G "LevelingNetwork" 217 173 169 13 prog_44_method_4_code "java/util/NoSuchElementException" "the line has no backward run" ["java/lang/RuntimeException", "java/lang/Exception"] := ⟨jw_694, jw_27, fun w hw => (jt_w173 w hw).1, fun w hw => by
    rcases List.mem_cons.mp hw with rfl | hw
    · decide +kernel
    · rcases List.mem_cons.mp hw with rfl | hw
      · decide +kernel
      · exact (jt_w173 w hw).2, by decide +kernel, by decide +kernel, fun s h => ⟨(hx s h).2.2.2.2.1, (hx s h).1.1, (hx s h).1.2⟩, by decide +kernel, by decide +kernel, by decide +kernel, by decide +kernel⟩
theorem jt_234_236 {G : jk_G} (hx : zx_ok G) : jk_thW G "LevelingNetwork" 234 236 232 "java/lang/IllegalArgumentException" "the length is not between 0 and 800" ["java/lang/RuntimeException", "java/lang/Exception"] := ⟨jw_662, jw_25, fun w hw => (jt_w236 w hw).1, fun w hw => by
    rcases List.mem_cons.mp hw with rfl | hw
    · decide +kernel
    · rcases List.mem_cons.mp hw with rfl | hw
      · decide +kernel
      · exact (jt_w236 w hw).2, by decide +kernel, by decide +kernel, fun s h => ⟨(hx s h).2.2.2.2.2.1, (hx s h).1.1, (hx s h).1.2⟩⟩
theorem jt_262_173 {G : jk_G} (hx : zx_ok G) : jk_thWX G "LevelingNetwork" 262 173 169 13 prog_44_method_4_code "java/util/NoSuchElementException" "there is no such position" ["java/lang/RuntimeException", "java/lang/Exception"] := ⟨jw_694, jw_27, fun w hw => (jt_w173 w hw).1, fun w hw => by
    rcases List.mem_cons.mp hw with rfl | hw
    · decide +kernel
    · rcases List.mem_cons.mp hw with rfl | hw
      · decide +kernel
      · exact (jt_w173 w hw).2, by decide +kernel, by decide +kernel, fun s h => ⟨(hx s h).2.2.2.2.2.2.1, (hx s h).1.1, (hx s h).1.2⟩, by decide +kernel, by decide +kernel, by decide +kernel, by decide +kernel⟩
theorem jt_302_236 {G : jk_G} (hx : zx_ok G) : jk_thW G "LevelingNetwork" 302 236 232 "java/lang/IllegalArgumentException" "the profile has no such column" ["java/lang/RuntimeException", "java/lang/Exception"] := ⟨jw_662, jw_25, fun w hw => (jt_w236 w hw).1, fun w hw => by
    rcases List.mem_cons.mp hw with rfl | hw
    · decide +kernel
    · rcases List.mem_cons.mp hw with rfl | hw
      · decide +kernel
      · exact (jt_w236 w hw).2, by decide +kernel, by decide +kernel, fun s h => ⟨(hx s h).2.2.2.2.2.2.2.1, (hx s h).1.1, (hx s h).1.2⟩⟩
theorem jt_323_173 {G : jk_G} (hx : zx_ok G) : jk_thWX G "LevelingNetwork" 323 173 169 13 prog_44_method_4_code "java/util/NoSuchElementException" "the profile has no stations" ["java/lang/RuntimeException", "java/lang/Exception"] := ⟨jw_694, jw_27, fun w hw => (jt_w173 w hw).1, fun w hw => by
    rcases List.mem_cons.mp hw with rfl | hw
    · decide +kernel
    · rcases List.mem_cons.mp hw with rfl | hw
      · decide +kernel
      · exact (jt_w173 w hw).2, by decide +kernel, by decide +kernel, fun s h => ⟨(hx s h).2.2.2.2.2.2.2.2.1, (hx s h).1.1, (hx s h).1.2⟩, by decide +kernel, by decide +kernel, by decide +kernel, by decide +kernel⟩
theorem jt_333_335 {G : jk_G} (hx : zx_ok G) : jk_thW G "LevelingNetwork" 333 335 331 "java/lang/ArithmeticException" "there are no usable lines" ["java/lang/RuntimeException", "java/lang/Exception"] := ⟨jw_1154, jw_37, fun w hw => (jt_w335 w hw).1, fun w hw => by
    rcases List.mem_cons.mp hw with rfl | hw
    · decide +kernel
    · rcases List.mem_cons.mp hw with rfl | hw
      · decide +kernel
      · exact (jt_w335 w hw).2, by decide +kernel, by decide +kernel, fun s h => ⟨(hx s h).2.2.2.2.2.2.2.2.2.1, (hx s h).1.1, (hx s h).1.2⟩⟩
theorem jt_339_335 {G : jk_G} (hx : zx_ok G) : jk_thW G "LevelingNetwork" 339 335 331 "java/lang/ArithmeticException" "there are no lines" ["java/lang/RuntimeException", "java/lang/Exception"] := ⟨jw_1154, jw_37, fun w hw => (jt_w335 w hw).1, fun w hw => by
    rcases List.mem_cons.mp hw with rfl | hw
    · decide +kernel
    · rcases List.mem_cons.mp hw with rfl | hw
      · decide +kernel
      · exact (jt_w335 w hw).2, by decide +kernel, by decide +kernel, fun s h => ⟨(hx s h).2.2.2.2.2.2.2.2.2.2.1, (hx s h).1.1, (hx s h).1.2⟩⟩
theorem jt_372_374 {G : jk_G} (hx : zx_ok G) : jk_thW G "LevelingNetwork" 372 374 370 "java/lang/IndexOutOfBoundsException" "there is no such character" ["java/lang/RuntimeException", "java/lang/Exception"] := ⟨jw_590, jw_18, fun w hw => (jt_w374 w hw).1, fun w hw => by
    rcases List.mem_cons.mp hw with rfl | hw
    · decide +kernel
    · rcases List.mem_cons.mp hw with rfl | hw
      · decide +kernel
      · exact (jt_w374 w hw).2, by decide +kernel, by decide +kernel, fun s h => ⟨(hx s h).2.2.2.2.2.2.2.2.2.2.2.1, (hx s h).1.1, (hx s h).1.2⟩⟩
theorem jt_378_236 {G : jk_G} (hx : zx_ok G) : jk_thW G "LevelingNetwork" 378 236 232 "java/lang/IllegalArgumentException" "the character code is not between 32 and 126" ["java/lang/RuntimeException", "java/lang/Exception"] := ⟨jw_662, jw_25, fun w hw => (jt_w236 w hw).1, fun w hw => by
    rcases List.mem_cons.mp hw with rfl | hw
    · decide +kernel
    · rcases List.mem_cons.mp hw with rfl | hw
      · decide +kernel
      · exact (jt_w236 w hw).2, by decide +kernel, by decide +kernel, fun s h => ⟨(hx s h).2.2.2.2.2.2.2.2.2.2.2.2.1, (hx s h).1.1, (hx s h).1.2⟩⟩
theorem jt_383_385 {G : jk_G} (hx : zx_ok G) : jk_thW G "LevelingNetwork" 383 385 381 "java/lang/IllegalStateException" "the script buffer is full" ["java/lang/RuntimeException", "java/lang/Exception"] := ⟨jw_678, jw_26, fun w hw => (jt_w385 w hw).1, fun w hw => by
    rcases List.mem_cons.mp hw with rfl | hw
    · decide +kernel
    · rcases List.mem_cons.mp hw with rfl | hw
      · decide +kernel
      · exact (jt_w385 w hw).2, by decide +kernel, by decide +kernel, fun s h => ⟨(hx s h).2.2.2.2.2.2.2.2.2.2.2.2.2.1, (hx s h).1.1, (hx s h).1.2⟩⟩
theorem jt_396_236 {G : jk_G} (hx : zx_ok G) : jk_thW G "LevelingNetwork" 396 236 232 "java/lang/IllegalArgumentException" "the script does not have the required form" ["java/lang/RuntimeException", "java/lang/Exception"] := ⟨jw_662, jw_25, fun w hw => (jt_w236 w hw).1, fun w hw => by
    rcases List.mem_cons.mp hw with rfl | hw
    · decide +kernel
    · rcases List.mem_cons.mp hw with rfl | hw
      · decide +kernel
      · exact (jt_w236 w hw).2, by decide +kernel, by decide +kernel, fun s h => ⟨(hx s h).2.2.2.2.2.2.2.2.2.2.2.2.2.2.1, (hx s h).1.1, (hx s h).1.2⟩⟩
theorem jt_404_385 {G : jk_G} (hx : zx_ok G) : jk_thW G "LevelingNetwork" 404 385 381 "java/lang/IllegalStateException" "a command of the script failed" ["java/lang/RuntimeException", "java/lang/Exception"] := ⟨jw_678, jw_26, fun w hw => (jt_w385 w hw).1, fun w hw => by
    rcases List.mem_cons.mp hw with rfl | hw
    · decide +kernel
    · rcases List.mem_cons.mp hw with rfl | hw
      · decide +kernel
      · exact (jt_w385 w hw).2, by decide +kernel, by decide +kernel, fun s h => ⟨(hx s h).2.2.2.2.2.2.2.2.2.2.2.2.2.2.2.1, (hx s h).1.1, (hx s h).1.2⟩⟩
theorem jt_412_173 {G : jk_G} (hx : zx_ok G) : jk_thWX G "LevelingNetwork" 412 173 169 13 prog_44_method_4_code "java/util/NoSuchElementException" "there was no malformed script" ["java/lang/RuntimeException", "java/lang/Exception"] := ⟨jw_694, jw_27, fun w hw => (jt_w173 w hw).1, fun w hw => by
    rcases List.mem_cons.mp hw with rfl | hw
    · decide +kernel
    · rcases List.mem_cons.mp hw with rfl | hw
      · decide +kernel
      · exact (jt_w173 w hw).2, by decide +kernel, by decide +kernel, fun s h => ⟨(hx s h).2.2.2.2.2.2.2.2.2.2.2.2.2.2.2.2.1, (hx s h).1.1, (hx s h).1.2⟩, by decide +kernel, by decide +kernel, by decide +kernel, by decide +kernel⟩
theorem jt_414_173 {G : jk_G} (hx : zx_ok G) : jk_thWX G "LevelingNetwork" 414 173 169 13 prog_44_method_4_code "java/util/NoSuchElementException" "there was no failed command" ["java/lang/RuntimeException", "java/lang/Exception"] := ⟨jw_694, jw_27, fun w hw => (jt_w173 w hw).1, fun w hw => by
    rcases List.mem_cons.mp hw with rfl | hw
    · decide +kernel
    · rcases List.mem_cons.mp hw with rfl | hw
      · decide +kernel
      · exact (jt_w173 w hw).2, by decide +kernel, by decide +kernel, fun s h => ⟨(hx s h).2.2.2.2.2.2.2.2.2.2.2.2.2.2.2.2.2.1, (hx s h).1.1, (hx s h).1.2⟩, by decide +kernel, by decide +kernel, by decide +kernel, by decide +kernel⟩
theorem jt_417_173 {G : jk_G} (hx : zx_ok G) : jk_thWX G "LevelingNetwork" 417 173 169 13 prog_44_method_4_code "java/util/NoSuchElementException" "there is nothing to undo" ["java/lang/RuntimeException", "java/lang/Exception"] := ⟨jw_694, jw_27, fun w hw => (jt_w173 w hw).1, fun w hw => by
    rcases List.mem_cons.mp hw with rfl | hw
    · decide +kernel
    · rcases List.mem_cons.mp hw with rfl | hw
      · decide +kernel
      · exact (jt_w173 w hw).2, by decide +kernel, by decide +kernel, fun s h => ⟨(hx s h).2.2.2.2.2.2.2.2.2.2.2.2.2.2.2.2.2.2.1, (hx s h).1.1, (hx s h).1.2⟩, by decide +kernel, by decide +kernel, by decide +kernel, by decide +kernel⟩
theorem jt_426_385 {G : jk_G} (hx : zx_ok G) : jk_thW G "LevelingNetwork" 426 385 381 "java/lang/IllegalStateException" "there is no snapshot" ["java/lang/RuntimeException", "java/lang/Exception"] := ⟨jw_678, jw_26, fun w hw => (jt_w385 w hw).1, fun w hw => by
    rcases List.mem_cons.mp hw with rfl | hw
    · decide +kernel
    · rcases List.mem_cons.mp hw with rfl | hw
      · decide +kernel
      · exact (jt_w385 w hw).2, by decide +kernel, by decide +kernel, fun s h => ⟨(hx s h).2.2.2.2.2.2.2.2.2.2.2.2.2.2.2.2.2.2.2.1, (hx s h).1.1, (hx s h).1.2⟩⟩
theorem jt_449_374 {G : jk_G} (hx : zx_ok G) : jk_thW G "LevelingNetwork" 449 374 370 "java/lang/IndexOutOfBoundsException" "there is no such index" ["java/lang/RuntimeException", "java/lang/Exception"] := ⟨jw_590, jw_18, fun w hw => (jt_w374 w hw).1, fun w hw => by
    rcases List.mem_cons.mp hw with rfl | hw
    · decide +kernel
    · rcases List.mem_cons.mp hw with rfl | hw
      · decide +kernel
      · exact (jt_w374 w hw).2, by decide +kernel, by decide +kernel, fun s h => ⟨(hx s h).2.2.2.2.2.2.2.2.2.2.2.2.2.2.2.2.2.2.2.2.1, (hx s h).1.1, (hx s h).1.2⟩⟩
theorem jt_451_236 {G : jk_G} (hx : zx_ok G) : jk_thW G "LevelingNetwork" 451 236 232 "java/lang/IllegalArgumentException" "an argument is out of its range" ["java/lang/RuntimeException", "java/lang/Exception"] := ⟨jw_662, jw_25, fun w hw => (jt_w236 w hw).1, fun w hw => by
    rcases List.mem_cons.mp hw with rfl | hw
    · decide +kernel
    · rcases List.mem_cons.mp hw with rfl | hw
      · decide +kernel
      · exact (jt_w236 w hw).2, by decide +kernel, by decide +kernel, fun s h => ⟨(hx s h).2.2.2.2.2.2.2.2.2.2.2.2.2.2.2.2.2.2.2.2.2.1, (hx s h).1.1, (hx s h).1.2⟩⟩
theorem jt_453_385 {G : jk_G} (hx : zx_ok G) : jk_thW G "LevelingNetwork" 453 385 381 "java/lang/IllegalStateException" "the state does not allow this change" ["java/lang/RuntimeException", "java/lang/Exception"] := ⟨jw_678, jw_26, fun w hw => (jt_w385 w hw).1, fun w hw => by
    rcases List.mem_cons.mp hw with rfl | hw
    · decide +kernel
    · rcases List.mem_cons.mp hw with rfl | hw
      · decide +kernel
      · exact (jt_w385 w hw).2, by decide +kernel, by decide +kernel, fun s h => ⟨(hx s h).2.2.2.2.2.2.2.2.2.2.2.2.2.2.2.2.2.2.2.2.2.2.1, (hx s h).1.1, (hx s h).1.2⟩⟩
theorem jt_455_173 {G : jk_G} (hx : zx_ok G) : jk_thWX G "LevelingNetwork" 455 173 169 13 prog_44_method_4_code "java/util/NoSuchElementException" "the line closes no loop" ["java/lang/RuntimeException", "java/lang/Exception"] := ⟨jw_694, jw_27, fun w hw => (jt_w173 w hw).1, fun w hw => by
    rcases List.mem_cons.mp hw with rfl | hw
    · decide +kernel
    · rcases List.mem_cons.mp hw with rfl | hw
      · decide +kernel
      · exact (jt_w173 w hw).2, by decide +kernel, by decide +kernel, fun s h => ⟨(hx s h).2.2.2.2.2.2.2.2.2.2.2.2.2.2.2.2.2.2.2.2.2.2.2.1, (hx s h).1.1, (hx s h).1.2⟩, by decide +kernel, by decide +kernel, by decide +kernel, by decide +kernel⟩
theorem jt_459_461 {G : jk_G} (hx : zx_ok G) : jk_thW G "LevelingNetwork" 459 461 457 "java/lang/UnsupportedOperationException" "the misclosure exceeds the tolerance" ["java/lang/RuntimeException", "java/lang/Exception"] := ⟨jw_710, jw_28, fun w hw => (jt_w461 w hw).1, fun w hw => by
    rcases List.mem_cons.mp hw with rfl | hw
    · decide +kernel
    · rcases List.mem_cons.mp hw with rfl | hw
      · decide +kernel
      · exact (jt_w461 w hw).2, by decide +kernel, by decide +kernel, fun s h => ⟨(hx s h).2.2.2.2.2.2.2.2.2.2.2.2.2.2.2.2.2.2.2.2.2.2.2.2.1, (hx s h).1.1, (hx s h).1.2⟩⟩
theorem jt_465_374 {G : jk_G} (hx : zx_ok G) : jk_thW G "LevelingNetwork" 465 374 370 "java/lang/IndexOutOfBoundsException" "there is no such benchmark" ["java/lang/RuntimeException", "java/lang/Exception"] := ⟨jw_590, jw_18, fun w hw => (jt_w374 w hw).1, fun w hw => by
    rcases List.mem_cons.mp hw with rfl | hw
    · decide +kernel
    · rcases List.mem_cons.mp hw with rfl | hw
      · decide +kernel
      · exact (jt_w374 w hw).2, by decide +kernel, by decide +kernel, fun s h => ⟨(hx s h).2.2.2.2.2.2.2.2.2.2.2.2.2.2.2.2.2.2.2.2.2.2.2.2.2.1, (hx s h).1.1, (hx s h).1.2⟩⟩
theorem jt_470_374 {G : jk_G} (hx : zx_ok G) : jk_thW G "LevelingNetwork" 470 374 370 "java/lang/IndexOutOfBoundsException" "there is no such line" ["java/lang/RuntimeException", "java/lang/Exception"] := ⟨jw_590, jw_18, fun w hw => (jt_w374 w hw).1, fun w hw => by
    rcases List.mem_cons.mp hw with rfl | hw
    · decide +kernel
    · rcases List.mem_cons.mp hw with rfl | hw
      · decide +kernel
      · exact (jt_w374 w hw).2, by decide +kernel, by decide +kernel, fun s h => ⟨(hx s h).2.2.2.2.2.2.2.2.2.2.2.2.2.2.2.2.2.2.2.2.2.2.2.2.2.2.1, (hx s h).1.1, (hx s h).1.2⟩⟩
theorem jt_475_374 {G : jk_G} (hx : zx_ok G) : jk_thW G "LevelingNetwork" 475 374 370 "java/lang/IndexOutOfBoundsException" "there is no such profile" ["java/lang/RuntimeException", "java/lang/Exception"] := ⟨jw_590, jw_18, fun w hw => (jt_w374 w hw).1, fun w hw => by
    rcases List.mem_cons.mp hw with rfl | hw
    · decide +kernel
    · rcases List.mem_cons.mp hw with rfl | hw
      · decide +kernel
      · exact (jt_w374 w hw).2, by decide +kernel, by decide +kernel, fun s h => ⟨(hx s h).2.2.2.2.2.2.2.2.2.2.2.2.2.2.2.2.2.2.2.2.2.2.2.2.2.2.2.1, (hx s h).1.1, (hx s h).1.2⟩⟩
theorem jt_477_173 {G : jk_G} (hx : zx_ok G) : jk_thWX G "LevelingNetwork" 477 173 169 13 prog_44_method_4_code "java/util/NoSuchElementException" "the benchmark has no height" ["java/lang/RuntimeException", "java/lang/Exception"] := ⟨jw_694, jw_27, fun w hw => (jt_w173 w hw).1, fun w hw => by
    rcases List.mem_cons.mp hw with rfl | hw
    · decide +kernel
    · rcases List.mem_cons.mp hw with rfl | hw
      · decide +kernel
      · exact (jt_w173 w hw).2, by decide +kernel, by decide +kernel, fun s h => ⟨(hx s h).2.2.2.2.2.2.2.2.2.2.2.2.2.2.2.2.2.2.2.2.2.2.2.2.2.2.2.2, (hx s h).1.1, (hx s h).1.2⟩, by decide +kernel, by decide +kernel, by decide +kernel, by decide +kernel⟩
end SITES
