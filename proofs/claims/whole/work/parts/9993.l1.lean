section L1
/-- what a wrapper answers: 0 and the value in its row, or the number of the throw -/
def wQ (o : Nat) (cs : List String) (Q1 : jk_Q) (X1 : jk_X) : jk_Q := fun v' n' t' σ' ρ' => (∃ v σ1, Q1 (some (jI v)) n' t' σ1 ρ' ∧ v' = some (jI 0) ∧ σ' = jk_row σ1 o (jk_set (σ1 o) 0 (jk_w v))) ∨ ∃ i : Nat, i < cs.length ∧ X1 (cs.getD i "") n' t' σ' ρ' ∧ v' = some (jI ((i : Int) + 1))
def wQd (o : Nat) (cs : List String) (Q1 : jk_Q) (X1 : jk_X) : jk_Q := fun v' n' t' σ' ρ' => (∃ y σ1, Q1 (some (.double y)) n' t' σ1 ρ' ∧ v' = some (jI 0) ∧ σ' = jk_row σ1 o (jk_set (σ1 o) 0 (y.toNat : Int))) ∨ ∃ i : Nat, i < cs.length ∧ X1 (cs.getD i "") n' t' σ' ρ' ∧ v' = some (jI ((i : Int) + 1))
def wQf (o : Nat) (cs : List String) (Q1 : jk_Q) (X1 : jk_X) : jk_Q := fun v' n' t' σ' ρ' => (∃ y σ1, Q1 (some (.float y)) n' t' σ1 ρ' ∧ v' = some (jI 0) ∧ σ' = jk_row σ1 o (jk_set (σ1 o) 0 ((FP.f2d y).toNat : Int))) ∨ ∃ i : Nat, i < cs.length ∧ X1 (cs.getD i "") n' t' σ' ρ' ∧ v' = some (jI ((i : Int) + 1))
abbrev mL_addBenchmark : jk_M := ("LevelingNetworkLaw", cL_addBenchmark, 3, (some FieldType.int), tableOf [(0, 8, 11, 13)], false, 20)
theorem jm_L_addBenchmark : jk_mH yL_addBenchmark mL_addBenchmark [(0, 8, 11, 13)] 2 := ⟨⟨jw_962, jw_0, ⟨by decide +kernel, by decide +kernel⟩, by decide +kernel, by decide +kernel, rfl, by decide, fun h => absurd h (by decide), rfl⟩, jw_961⟩
theorem w_addBenchmark {G : jk_G} {n : Nat} {t : jk_T} {σ : jk_I} {ρ : jk_P} {x o mc ms : Nat} {Q1 : jk_Q} {X1 : jk_X} (hzn : zn_ok G) (hx : t x = some (.inr 12)) (K : jk_K G yX12_addBenchmark mX12_addBenchmark mc ms [.ref x] n t σ ρ Q1 X1) (hQ : ∀ v' n' t' σ' ρ', Q1 v' n' t' σ' ρ' → (∃ v, v' = some (jI v)) ∧ t' o = some (.inl (.long, 1))) (hX : ∀ E n' t' σ' ρ', X1 E n' t' σ' ρ' → E = "java/lang/IllegalStateException") : jk_KH G yL_addBenchmark mL_addBenchmark [(0, 8, 11, 13)] mc ms [.ref x, .ref o] n t σ ρ (wQ o ["java/lang/IllegalStateException"] Q1 X1) jk_no := by
  refine jk_entryH (ls := [some (.ref x), some (.ref o), none]) jm_L_addBenchmark rfl rfl rfl ?_
  refine jk_aload_n (q := 1) dL_addBenchmark_0 rfl rfl ?_
  refine jk_iconst (q := 2) dL_addBenchmark_1 rfl ?_
  refine jk_aload_n (q := 3) dL_addBenchmark_2 rfl rfl ?_
  refine jk_callVC (q := 6) (k := 12) (As := []) K jm_X12_addBenchmark jw_964 rfl hx rfl rfl rfl (Nat.le_refl _) (Nat.le_refl _) dL_addBenchmark_3 rfl (fun v' n' t' σ' ρ' hq => ?_) (fun E n' t' σ' ρ' hx9 => ?_)
  · obtain ⟨⟨v, rfl⟩, hto⟩ := hQ _ _ _ _ _ hq
    simp only [Option.toList_some, List.cons_append, List.nil_append]
    refine jk_i2lw (q := 7) dL_addBenchmark_6 rfl ?_
    refine jk_lastR (q := 8) (by first | exact hto | exact hx) (by rfl) (by first | decide | omega) dL_addBenchmark_7 rfl ?_
    refine jk_goto (q := 14) dL_addBenchmark_8 rfl ?_
    refine jk_iconst (q := 15) dL_addBenchmark_14 rfl ?_
    exact jk_iret rfl dL_addBenchmark_15 (by exact Or.inl ⟨v, σ', hq, rfl, rfl⟩)
  · obtain rfl := hX _ _ _ _ _ hx9
    · refine ⟨[], ⟨0, 8, 11, 13⟩, [], "java/lang/IllegalStateException", rfl, (fun z hz => absurd hz List.not_mem_nil), rfl, by decide, jw_963, jw_681, fun a => ?_⟩
      refine jk_astore2 (q := 12) dL_addBenchmark_11 rfl rfl rfl ?_
      refine jk_iconst (q := 13) dL_addBenchmark_12 rfl ?_
      exact jk_iret rfl dL_addBenchmark_13 (by exact Or.inr ⟨0, by decide, hx9, rfl⟩)
abbrev mL_fix : jk_M := ("LevelingNetworkLaw", cL_fix, 5, (some FieldType.int), tableOf [(0, 10, 13, 19), (0, 10, 17, 21)], false, 20)
theorem jm_L_fix : jk_mH yL_fix mL_fix [(0, 10, 13, 19), (0, 10, 17, 21)] 4 := ⟨⟨jw_972, jw_0, ⟨by decide +kernel, by decide +kernel⟩, by decide +kernel, by decide +kernel, rfl, by decide, fun h => absurd h (by decide), rfl⟩, jw_971⟩
theorem w_fix {G : jk_G} {n : Nat} {t : jk_T} {σ : jk_I} {ρ : jk_P} {x o mc ms : Nat} {p0 p1 : Int} {Q1 : jk_Q} {X1 : jk_X} (hzn : zn_ok G) (hx : t x = some (.inr 12)) (K : jk_K G yX12_fix mX12_fix mc ms [.ref x, jI p0, jI p1] n t σ ρ Q1 X1) (hQ : ∀ v' n' t' σ' ρ', Q1 v' n' t' σ' ρ' → (∃ v, v' = some (jI v)) ∧ t' o = some (.inl (.long, 1))) (hX : ∀ E n' t' σ' ρ', X1 E n' t' σ' ρ' → E = "java/lang/IndexOutOfBoundsException" ∨ E = "java/lang/IllegalArgumentException") : jk_KH G yL_fix mL_fix [(0, 10, 13, 19), (0, 10, 17, 21)] mc ms [.ref x, jI p0, jI p1, .ref o] n t σ ρ (wQ o ["java/lang/IndexOutOfBoundsException", "java/lang/IllegalArgumentException"] Q1 X1) jk_no := by
  refine jk_entryH (ls := [some (.ref x), some (jI p0), some (jI p1), some (.ref o), none]) jm_L_fix rfl rfl rfl ?_
  refine jk_aload_n (q := 1) dL_fix_0 rfl rfl ?_
  refine jk_iconst (q := 2) dL_fix_1 rfl ?_
  refine jk_aload_n (q := 3) dL_fix_2 rfl rfl ?_
  refine jk_iload_n (q := 4) dL_fix_3 rfl rfl ?_
  refine jk_iload_n (q := 5) dL_fix_4 rfl rfl ?_
  refine jk_callVC (q := 8) (k := 12) (As := [jI p0, jI p1]) K jm_X12_fix jw_995 rfl hx rfl rfl rfl (Nat.le_refl _) (Nat.le_refl _) dL_fix_5 rfl (fun v' n' t' σ' ρ' hq => ?_) (fun E n' t' σ' ρ' hx9 => ?_)
  · obtain ⟨⟨v, rfl⟩, hto⟩ := hQ _ _ _ _ _ hq
    simp only [Option.toList_some, List.cons_append, List.nil_append]
    refine jk_i2lw (q := 9) dL_fix_8 rfl ?_
    refine jk_lastR (q := 10) (by first | exact hto | exact hx) (by rfl) (by first | decide | omega) dL_fix_9 rfl ?_
    refine jk_goto (q := 21) dL_fix_10 rfl ?_
    refine jk_iconst (q := 22) dL_fix_21 rfl ?_
    exact jk_iret rfl dL_fix_22 (by exact Or.inl ⟨v, σ', hq, rfl, rfl⟩)
  · rcases hX _ _ _ _ _ hx9 with rfl | rfl
    · refine ⟨[], ⟨0, 10, 13, 19⟩, [⟨0, 10, 17, 21⟩], "java/lang/IndexOutOfBoundsException", rfl, (fun z hz => absurd hz List.not_mem_nil), rfl, by decide, jw_973, jw_593, fun a => ?_⟩
      refine jk_astore4 (q := 15) dL_fix_13 rfl rfl rfl ?_
      refine jk_iconst (q := 16) dL_fix_15 rfl ?_
      exact jk_iret rfl dL_fix_16 (by exact Or.inr ⟨0, by decide, hx9, rfl⟩)
    · refine ⟨[⟨0, 10, 13, 19⟩], ⟨0, 10, 17, 21⟩, [], "java/lang/IllegalArgumentException", rfl, (fun z hz => by
        rcases List.mem_cons.mp hz with rfl | hz
        · exact ⟨by decide, "java/lang/IndexOutOfBoundsException", jw_973, fun s h => (hzn s h).2.2.2.2.1⟩
        exact absurd hz List.not_mem_nil), rfl, by decide, jw_994, jw_665, fun a => ?_⟩
      refine jk_astore4 (q := 19) dL_fix_17 rfl rfl rfl ?_
      refine jk_iconst (q := 20) dL_fix_19 rfl ?_
      exact jk_iret rfl dL_fix_20 (by exact Or.inr ⟨1, by decide, hx9, rfl⟩)
abbrev mL_release : jk_M := ("LevelingNetworkLaw", cL_release, 4, (some FieldType.int), tableOf [(0, 9, 12, 19), (0, 9, 15, 13)], false, 20)
theorem jm_L_release : jk_mH yL_release mL_release [(0, 9, 12, 19), (0, 9, 15, 13)] 3 := ⟨⟨jw_1003, jw_0, ⟨by decide +kernel, by decide +kernel⟩, by decide +kernel, by decide +kernel, rfl, by decide, fun h => absurd h (by decide), rfl⟩, jw_1002⟩
theorem w_release {G : jk_G} {n : Nat} {t : jk_T} {σ : jk_I} {ρ : jk_P} {x o mc ms : Nat} {p0 : Int} {Q1 : jk_Q} {X1 : jk_X} (hzn : zn_ok G) (hx : t x = some (.inr 12)) (K : jk_K G yX12_release mX12_release mc ms [.ref x, jI p0] n t σ ρ Q1 X1) (hQ : ∀ v' n' t' σ' ρ', Q1 v' n' t' σ' ρ' → (∃ v, v' = some (jI v)) ∧ t' o = some (.inl (.long, 1))) (hX : ∀ E n' t' σ' ρ', X1 E n' t' σ' ρ' → E = "java/lang/IndexOutOfBoundsException" ∨ E = "java/lang/IllegalStateException") : jk_KH G yL_release mL_release [(0, 9, 12, 19), (0, 9, 15, 13)] mc ms [.ref x, jI p0, .ref o] n t σ ρ (wQ o ["java/lang/IndexOutOfBoundsException", "java/lang/IllegalStateException"] Q1 X1) jk_no := by
  refine jk_entryH (ls := [some (.ref x), some (jI p0), some (.ref o), none]) jm_L_release rfl rfl rfl ?_
  refine jk_aload_n (q := 1) dL_release_0 rfl rfl ?_
  refine jk_iconst (q := 2) dL_release_1 rfl ?_
  refine jk_aload_n (q := 3) dL_release_2 rfl rfl ?_
  refine jk_iload_n (q := 4) dL_release_3 rfl rfl ?_
  refine jk_callVC (q := 7) (k := 12) (As := [jI p0]) K jm_X12_release jw_1004 rfl hx rfl rfl rfl (Nat.le_refl _) (Nat.le_refl _) dL_release_4 rfl (fun v' n' t' σ' ρ' hq => ?_) (fun E n' t' σ' ρ' hx9 => ?_)
  · obtain ⟨⟨v, rfl⟩, hto⟩ := hQ _ _ _ _ _ hq
    simp only [Option.toList_some, List.cons_append, List.nil_append]
    refine jk_i2lw (q := 8) dL_release_7 rfl ?_
    refine jk_lastR (q := 9) (by first | exact hto | exact hx) (by rfl) (by first | decide | omega) dL_release_8 rfl ?_
    refine jk_goto (q := 18) dL_release_9 rfl ?_
    refine jk_iconst (q := 19) dL_release_18 rfl ?_
    exact jk_iret rfl dL_release_19 (by exact Or.inl ⟨v, σ', hq, rfl, rfl⟩)
  · rcases hX _ _ _ _ _ hx9 with rfl | rfl
    · refine ⟨[], ⟨0, 9, 12, 19⟩, [⟨0, 9, 15, 13⟩], "java/lang/IndexOutOfBoundsException", rfl, (fun z hz => absurd hz List.not_mem_nil), rfl, by decide, jw_973, jw_593, fun a => ?_⟩
      refine jk_astore3 (q := 13) dL_release_12 rfl rfl rfl ?_
      refine jk_iconst (q := 14) dL_release_13 rfl ?_
      exact jk_iret rfl dL_release_14 (by exact Or.inr ⟨0, by decide, hx9, rfl⟩)
    · refine ⟨[⟨0, 9, 12, 19⟩], ⟨0, 9, 15, 13⟩, [], "java/lang/IllegalStateException", rfl, (fun z hz => by
        rcases List.mem_cons.mp hz with rfl | hz
        · exact ⟨by decide, "java/lang/IndexOutOfBoundsException", jw_973, fun s h => (hzn s h).1⟩
        exact absurd hz List.not_mem_nil), rfl, by decide, jw_963, jw_681, fun a => ?_⟩
      refine jk_astore3 (q := 16) dL_release_15 rfl rfl rfl ?_
      refine jk_iconst (q := 17) dL_release_16 rfl ?_
      exact jk_iret rfl dL_release_17 (by exact Or.inr ⟨1, by decide, hx9, rfl⟩)
abbrev mL_addLine : jk_M := ("LevelingNetworkLaw", cL_addLine, 7, (some FieldType.int), tableOf [(0, 14, 17, 19), (0, 14, 21, 21), (0, 14, 25, 13)], false, 20)
theorem jm_L_addLine : jk_mH yL_addLine mL_addLine [(0, 14, 17, 19), (0, 14, 21, 21), (0, 14, 25, 13)] 6 := ⟨⟨jw_1012, jw_0, ⟨by decide +kernel, by decide +kernel⟩, by decide +kernel, by decide +kernel, rfl, by decide, fun h => absurd h (by decide), rfl⟩, jw_1011⟩
theorem w_addLine {G : jk_G} {n : Nat} {t : jk_T} {σ : jk_I} {ρ : jk_P} {x o mc ms : Nat} {p0 p1 p2 p3 : Int} {Q1 : jk_Q} {X1 : jk_X} (hzn : zn_ok G) (hx : t x = some (.inr 12)) (K : jk_K G yX12_addLine mX12_addLine mc ms [.ref x, jI p0, jI p1, jI p2, jI p3] n t σ ρ Q1 X1) (hQ : ∀ v' n' t' σ' ρ', Q1 v' n' t' σ' ρ' → (∃ v, v' = some (jI v)) ∧ t' o = some (.inl (.long, 1))) (hX : ∀ E n' t' σ' ρ', X1 E n' t' σ' ρ' → E = "java/lang/IndexOutOfBoundsException" ∨ E = "java/lang/IllegalArgumentException" ∨ E = "java/lang/IllegalStateException") : jk_KH G yL_addLine mL_addLine [(0, 14, 17, 19), (0, 14, 21, 21), (0, 14, 25, 13)] mc ms [.ref x, jI p0, jI p1, jI p2, jI p3, .ref o] n t σ ρ (wQ o ["java/lang/IndexOutOfBoundsException", "java/lang/IllegalArgumentException", "java/lang/IllegalStateException"] Q1 X1) jk_no := by
  refine jk_entryH (ls := [some (.ref x), some (jI p0), some (jI p1), some (jI p2), some (jI p3), some (.ref o), none]) jm_L_addLine rfl rfl rfl ?_
  refine jk_aload (q := 2) dL_addLine_0 rfl rfl ?_
  refine jk_iconst (q := 3) dL_addLine_2 rfl ?_
  refine jk_aload_n (q := 4) dL_addLine_3 rfl rfl ?_
  refine jk_iload_n (q := 5) dL_addLine_4 rfl rfl ?_
  refine jk_iload_n (q := 6) dL_addLine_5 rfl rfl ?_
  refine jk_iload_n (q := 7) dL_addLine_6 rfl rfl ?_
  refine jk_iload (q := 9) dL_addLine_7 rfl rfl ?_
  refine jk_callVC (q := 12) (k := 12) (As := [jI p0, jI p1, jI p2, jI p3]) K jm_X12_addLine jw_1013 rfl hx rfl rfl rfl (Nat.le_refl _) (Nat.le_refl _) dL_addLine_9 rfl (fun v' n' t' σ' ρ' hq => ?_) (fun E n' t' σ' ρ' hx9 => ?_)
  · obtain ⟨⟨v, rfl⟩, hto⟩ := hQ _ _ _ _ _ hq
    simp only [Option.toList_some, List.cons_append, List.nil_append]
    refine jk_i2lw (q := 13) dL_addLine_12 rfl ?_
    refine jk_lastR (q := 14) (by first | exact hto | exact hx) (by rfl) (by first | decide | omega) dL_addLine_13 rfl ?_
    refine jk_goto (q := 29) dL_addLine_14 rfl ?_
    refine jk_iconst (q := 30) dL_addLine_29 rfl ?_
    exact jk_iret rfl dL_addLine_30 (by exact Or.inl ⟨v, σ', hq, rfl, rfl⟩)
  · rcases hX _ _ _ _ _ hx9 with rfl | rfl | rfl
    · refine ⟨[], ⟨0, 14, 17, 19⟩, [⟨0, 14, 21, 21⟩, ⟨0, 14, 25, 13⟩], "java/lang/IndexOutOfBoundsException", rfl, (fun z hz => absurd hz List.not_mem_nil), rfl, by decide, jw_973, jw_593, fun a => ?_⟩
      refine jk_astore6 (q := 19) dL_addLine_17 rfl rfl rfl ?_
      refine jk_iconst (q := 20) dL_addLine_19 rfl ?_
      exact jk_iret rfl dL_addLine_20 (by exact Or.inr ⟨0, by decide, hx9, rfl⟩)
    · refine ⟨[⟨0, 14, 17, 19⟩], ⟨0, 14, 21, 21⟩, [⟨0, 14, 25, 13⟩], "java/lang/IllegalArgumentException", rfl, (fun z hz => by
        rcases List.mem_cons.mp hz with rfl | hz
        · exact ⟨by decide, "java/lang/IndexOutOfBoundsException", jw_973, fun s h => (hzn s h).2.2.2.2.1⟩
        exact absurd hz List.not_mem_nil), rfl, by decide, jw_994, jw_665, fun a => ?_⟩
      refine jk_astore6 (q := 23) dL_addLine_21 rfl rfl rfl ?_
      refine jk_iconst (q := 24) dL_addLine_23 rfl ?_
      exact jk_iret rfl dL_addLine_24 (by exact Or.inr ⟨1, by decide, hx9, rfl⟩)
    · refine ⟨[⟨0, 14, 17, 19⟩, ⟨0, 14, 21, 21⟩], ⟨0, 14, 25, 13⟩, [], "java/lang/IllegalStateException", rfl, (fun z hz => by
        rcases List.mem_cons.mp hz with rfl | hz
        · exact ⟨by decide, "java/lang/IndexOutOfBoundsException", jw_973, fun s h => (hzn s h).1⟩
        rcases List.mem_cons.mp hz with rfl | hz
        · exact ⟨by decide, "java/lang/IllegalArgumentException", jw_994, fun s h => (hzn s h).2.2.2.2.2.1⟩
        exact absurd hz List.not_mem_nil), rfl, by decide, jw_963, jw_681, fun a => ?_⟩
      refine jk_astore6 (q := 27) dL_addLine_25 rfl rfl rfl ?_
      refine jk_iconst (q := 28) dL_addLine_27 rfl ?_
      exact jk_iret rfl dL_addLine_28 (by exact Or.inr ⟨2, by decide, hx9, rfl⟩)
abbrev mL_addBackwardRun : jk_M := ("LevelingNetworkLaw", cL_addBackwardRun, 5, (some FieldType.int), tableOf [(0, 10, 13, 19), (0, 10, 17, 21), (0, 10, 21, 13)], false, 20)
theorem jm_L_addBackwardRun : jk_mH yL_addBackwardRun mL_addBackwardRun [(0, 10, 13, 19), (0, 10, 17, 21), (0, 10, 21, 13)] 4 := ⟨⟨jw_1021, jw_0, ⟨by decide +kernel, by decide +kernel⟩, by decide +kernel, by decide +kernel, rfl, by decide, fun h => absurd h (by decide), rfl⟩, jw_1020⟩
theorem w_addBackwardRun {G : jk_G} {n : Nat} {t : jk_T} {σ : jk_I} {ρ : jk_P} {x o mc ms : Nat} {p0 p1 : Int} {Q1 : jk_Q} {X1 : jk_X} (hzn : zn_ok G) (hx : t x = some (.inr 12)) (K : jk_K G yX12_addBackwardRun mX12_addBackwardRun mc ms [.ref x, jI p0, jI p1] n t σ ρ Q1 X1) (hQ : ∀ v' n' t' σ' ρ', Q1 v' n' t' σ' ρ' → (∃ v, v' = some (jI v)) ∧ t' o = some (.inl (.long, 1))) (hX : ∀ E n' t' σ' ρ', X1 E n' t' σ' ρ' → E = "java/lang/IndexOutOfBoundsException" ∨ E = "java/lang/IllegalArgumentException" ∨ E = "java/lang/IllegalStateException") : jk_KH G yL_addBackwardRun mL_addBackwardRun [(0, 10, 13, 19), (0, 10, 17, 21), (0, 10, 21, 13)] mc ms [.ref x, jI p0, jI p1, .ref o] n t σ ρ (wQ o ["java/lang/IndexOutOfBoundsException", "java/lang/IllegalArgumentException", "java/lang/IllegalStateException"] Q1 X1) jk_no := by
  refine jk_entryH (ls := [some (.ref x), some (jI p0), some (jI p1), some (.ref o), none]) jm_L_addBackwardRun rfl rfl rfl ?_
  refine jk_aload_n (q := 1) dL_addBackwardRun_0 rfl rfl ?_
  refine jk_iconst (q := 2) dL_addBackwardRun_1 rfl ?_
  refine jk_aload_n (q := 3) dL_addBackwardRun_2 rfl rfl ?_
  refine jk_iload_n (q := 4) dL_addBackwardRun_3 rfl rfl ?_
  refine jk_iload_n (q := 5) dL_addBackwardRun_4 rfl rfl ?_
  refine jk_callVC (q := 8) (k := 12) (As := [jI p0, jI p1]) K jm_X12_addBackwardRun jw_1022 rfl hx rfl rfl rfl (Nat.le_refl _) (Nat.le_refl _) dL_addBackwardRun_5 rfl (fun v' n' t' σ' ρ' hq => ?_) (fun E n' t' σ' ρ' hx9 => ?_)
  · obtain ⟨⟨v, rfl⟩, hto⟩ := hQ _ _ _ _ _ hq
    simp only [Option.toList_some, List.cons_append, List.nil_append]
    refine jk_i2lw (q := 9) dL_addBackwardRun_8 rfl ?_
    refine jk_lastR (q := 10) (by first | exact hto | exact hx) (by rfl) (by first | decide | omega) dL_addBackwardRun_9 rfl ?_
    refine jk_goto (q := 25) dL_addBackwardRun_10 rfl ?_
    refine jk_iconst (q := 26) dL_addBackwardRun_25 rfl ?_
    exact jk_iret rfl dL_addBackwardRun_26 (by exact Or.inl ⟨v, σ', hq, rfl, rfl⟩)
  · rcases hX _ _ _ _ _ hx9 with rfl | rfl | rfl
    · refine ⟨[], ⟨0, 10, 13, 19⟩, [⟨0, 10, 17, 21⟩, ⟨0, 10, 21, 13⟩], "java/lang/IndexOutOfBoundsException", rfl, (fun z hz => absurd hz List.not_mem_nil), rfl, by decide, jw_973, jw_593, fun a => ?_⟩
      refine jk_astore4 (q := 15) dL_addBackwardRun_13 rfl rfl rfl ?_
      refine jk_iconst (q := 16) dL_addBackwardRun_15 rfl ?_
      exact jk_iret rfl dL_addBackwardRun_16 (by exact Or.inr ⟨0, by decide, hx9, rfl⟩)
    · refine ⟨[⟨0, 10, 13, 19⟩], ⟨0, 10, 17, 21⟩, [⟨0, 10, 21, 13⟩], "java/lang/IllegalArgumentException", rfl, (fun z hz => by
        rcases List.mem_cons.mp hz with rfl | hz
        · exact ⟨by decide, "java/lang/IndexOutOfBoundsException", jw_973, fun s h => (hzn s h).2.2.2.2.1⟩
        exact absurd hz List.not_mem_nil), rfl, by decide, jw_994, jw_665, fun a => ?_⟩
      refine jk_astore4 (q := 19) dL_addBackwardRun_17 rfl rfl rfl ?_
      refine jk_iconst (q := 20) dL_addBackwardRun_19 rfl ?_
      exact jk_iret rfl dL_addBackwardRun_20 (by exact Or.inr ⟨1, by decide, hx9, rfl⟩)
    · refine ⟨[⟨0, 10, 13, 19⟩, ⟨0, 10, 17, 21⟩], ⟨0, 10, 21, 13⟩, [], "java/lang/IllegalStateException", rfl, (fun z hz => by
        rcases List.mem_cons.mp hz with rfl | hz
        · exact ⟨by decide, "java/lang/IndexOutOfBoundsException", jw_973, fun s h => (hzn s h).1⟩
        rcases List.mem_cons.mp hz with rfl | hz
        · exact ⟨by decide, "java/lang/IllegalArgumentException", jw_994, fun s h => (hzn s h).2.2.2.2.2.1⟩
        exact absurd hz List.not_mem_nil), rfl, by decide, jw_963, jw_681, fun a => ?_⟩
      refine jk_astore4 (q := 23) dL_addBackwardRun_21 rfl rfl rfl ?_
      refine jk_iconst (q := 24) dL_addBackwardRun_23 rfl ?_
      exact jk_iret rfl dL_addBackwardRun_24 (by exact Or.inr ⟨2, by decide, hx9, rfl⟩)
abbrev mL_exclude : jk_M := ("LevelingNetworkLaw", cL_exclude, 4, (some FieldType.int), tableOf [(0, 9, 12, 19), (0, 9, 15, 13)], false, 20)
theorem jm_L_exclude : jk_mH yL_exclude mL_exclude [(0, 9, 12, 19), (0, 9, 15, 13)] 3 := ⟨⟨jw_1030, jw_0, ⟨by decide +kernel, by decide +kernel⟩, by decide +kernel, by decide +kernel, rfl, by decide, fun h => absurd h (by decide), rfl⟩, jw_1029⟩
theorem w_exclude {G : jk_G} {n : Nat} {t : jk_T} {σ : jk_I} {ρ : jk_P} {x o mc ms : Nat} {p0 : Int} {Q1 : jk_Q} {X1 : jk_X} (hzn : zn_ok G) (hx : t x = some (.inr 12)) (K : jk_K G yX12_exclude mX12_exclude mc ms [.ref x, jI p0] n t σ ρ Q1 X1) (hQ : ∀ v' n' t' σ' ρ', Q1 v' n' t' σ' ρ' → (∃ v, v' = some (jI v)) ∧ t' o = some (.inl (.long, 1))) (hX : ∀ E n' t' σ' ρ', X1 E n' t' σ' ρ' → E = "java/lang/IndexOutOfBoundsException" ∨ E = "java/lang/IllegalStateException") : jk_KH G yL_exclude mL_exclude [(0, 9, 12, 19), (0, 9, 15, 13)] mc ms [.ref x, jI p0, .ref o] n t σ ρ (wQ o ["java/lang/IndexOutOfBoundsException", "java/lang/IllegalStateException"] Q1 X1) jk_no := by
  refine jk_entryH (ls := [some (.ref x), some (jI p0), some (.ref o), none]) jm_L_exclude rfl rfl rfl ?_
  refine jk_aload_n (q := 1) dL_exclude_0 rfl rfl ?_
  refine jk_iconst (q := 2) dL_exclude_1 rfl ?_
  refine jk_aload_n (q := 3) dL_exclude_2 rfl rfl ?_
  refine jk_iload_n (q := 4) dL_exclude_3 rfl rfl ?_
  refine jk_callVC (q := 7) (k := 12) (As := [jI p0]) K jm_X12_exclude jw_1031 rfl hx rfl rfl rfl (Nat.le_refl _) (Nat.le_refl _) dL_exclude_4 rfl (fun v' n' t' σ' ρ' hq => ?_) (fun E n' t' σ' ρ' hx9 => ?_)
  · obtain ⟨⟨v, rfl⟩, hto⟩ := hQ _ _ _ _ _ hq
    simp only [Option.toList_some, List.cons_append, List.nil_append]
    refine jk_i2lw (q := 8) dL_exclude_7 rfl ?_
    refine jk_lastR (q := 9) (by first | exact hto | exact hx) (by rfl) (by first | decide | omega) dL_exclude_8 rfl ?_
    refine jk_goto (q := 18) dL_exclude_9 rfl ?_
    refine jk_iconst (q := 19) dL_exclude_18 rfl ?_
    exact jk_iret rfl dL_exclude_19 (by exact Or.inl ⟨v, σ', hq, rfl, rfl⟩)
  · rcases hX _ _ _ _ _ hx9 with rfl | rfl
    · refine ⟨[], ⟨0, 9, 12, 19⟩, [⟨0, 9, 15, 13⟩], "java/lang/IndexOutOfBoundsException", rfl, (fun z hz => absurd hz List.not_mem_nil), rfl, by decide, jw_973, jw_593, fun a => ?_⟩
      refine jk_astore3 (q := 13) dL_exclude_12 rfl rfl rfl ?_
      refine jk_iconst (q := 14) dL_exclude_13 rfl ?_
      exact jk_iret rfl dL_exclude_14 (by exact Or.inr ⟨0, by decide, hx9, rfl⟩)
    · refine ⟨[⟨0, 9, 12, 19⟩], ⟨0, 9, 15, 13⟩, [], "java/lang/IllegalStateException", rfl, (fun z hz => by
        rcases List.mem_cons.mp hz with rfl | hz
        · exact ⟨by decide, "java/lang/IndexOutOfBoundsException", jw_973, fun s h => (hzn s h).1⟩
        exact absurd hz List.not_mem_nil), rfl, by decide, jw_963, jw_681, fun a => ?_⟩
      refine jk_astore3 (q := 16) dL_exclude_15 rfl rfl rfl ?_
      refine jk_iconst (q := 17) dL_exclude_16 rfl ?_
      exact jk_iret rfl dL_exclude_17 (by exact Or.inr ⟨1, by decide, hx9, rfl⟩)
abbrev mL_include : jk_M := ("LevelingNetworkLaw", cL_include, 4, (some FieldType.int), tableOf [(0, 9, 12, 19), (0, 9, 15, 13)], false, 20)
theorem jm_L_include : jk_mH yL_include mL_include [(0, 9, 12, 19), (0, 9, 15, 13)] 3 := ⟨⟨jw_1039, jw_0, ⟨by decide +kernel, by decide +kernel⟩, by decide +kernel, by decide +kernel, rfl, by decide, fun h => absurd h (by decide), rfl⟩, jw_1038⟩
theorem w_include {G : jk_G} {n : Nat} {t : jk_T} {σ : jk_I} {ρ : jk_P} {x o mc ms : Nat} {p0 : Int} {Q1 : jk_Q} {X1 : jk_X} (hzn : zn_ok G) (hx : t x = some (.inr 12)) (K : jk_K G yX12_include mX12_include mc ms [.ref x, jI p0] n t σ ρ Q1 X1) (hQ : ∀ v' n' t' σ' ρ', Q1 v' n' t' σ' ρ' → (∃ v, v' = some (jI v)) ∧ t' o = some (.inl (.long, 1))) (hX : ∀ E n' t' σ' ρ', X1 E n' t' σ' ρ' → E = "java/lang/IndexOutOfBoundsException" ∨ E = "java/lang/IllegalStateException") : jk_KH G yL_include mL_include [(0, 9, 12, 19), (0, 9, 15, 13)] mc ms [.ref x, jI p0, .ref o] n t σ ρ (wQ o ["java/lang/IndexOutOfBoundsException", "java/lang/IllegalStateException"] Q1 X1) jk_no := by
  refine jk_entryH (ls := [some (.ref x), some (jI p0), some (.ref o), none]) jm_L_include rfl rfl rfl ?_
  refine jk_aload_n (q := 1) dL_include_0 rfl rfl ?_
  refine jk_iconst (q := 2) dL_include_1 rfl ?_
  refine jk_aload_n (q := 3) dL_include_2 rfl rfl ?_
  refine jk_iload_n (q := 4) dL_include_3 rfl rfl ?_
  refine jk_callVC (q := 7) (k := 12) (As := [jI p0]) K jm_X12_include jw_1040 rfl hx rfl rfl rfl (Nat.le_refl _) (Nat.le_refl _) dL_include_4 rfl (fun v' n' t' σ' ρ' hq => ?_) (fun E n' t' σ' ρ' hx9 => ?_)
  · obtain ⟨⟨v, rfl⟩, hto⟩ := hQ _ _ _ _ _ hq
    simp only [Option.toList_some, List.cons_append, List.nil_append]
    refine jk_i2lw (q := 8) dL_include_7 rfl ?_
    refine jk_lastR (q := 9) (by first | exact hto | exact hx) (by rfl) (by first | decide | omega) dL_include_8 rfl ?_
    refine jk_goto (q := 18) dL_include_9 rfl ?_
    refine jk_iconst (q := 19) dL_include_18 rfl ?_
    exact jk_iret rfl dL_include_19 (by exact Or.inl ⟨v, σ', hq, rfl, rfl⟩)
  · rcases hX _ _ _ _ _ hx9 with rfl | rfl
    · refine ⟨[], ⟨0, 9, 12, 19⟩, [⟨0, 9, 15, 13⟩], "java/lang/IndexOutOfBoundsException", rfl, (fun z hz => absurd hz List.not_mem_nil), rfl, by decide, jw_973, jw_593, fun a => ?_⟩
      refine jk_astore3 (q := 13) dL_include_12 rfl rfl rfl ?_
      refine jk_iconst (q := 14) dL_include_13 rfl ?_
      exact jk_iret rfl dL_include_14 (by exact Or.inr ⟨0, by decide, hx9, rfl⟩)
    · refine ⟨[⟨0, 9, 12, 19⟩], ⟨0, 9, 15, 13⟩, [], "java/lang/IllegalStateException", rfl, (fun z hz => by
        rcases List.mem_cons.mp hz with rfl | hz
        · exact ⟨by decide, "java/lang/IndexOutOfBoundsException", jw_973, fun s h => (hzn s h).1⟩
        exact absurd hz List.not_mem_nil), rfl, by decide, jw_963, jw_681, fun a => ?_⟩
      refine jk_astore3 (q := 16) dL_include_15 rfl rfl rfl ?_
      refine jk_iconst (q := 17) dL_include_16 rfl ?_
      exact jk_iret rfl dL_include_17 (by exact Or.inr ⟨1, by decide, hx9, rfl⟩)
abbrev mL_shareMisclosure : jk_M := ("LevelingNetworkLaw", cL_shareMisclosure, 4, (some FieldType.int), tableOf [(0, 9, 12, 19), (0, 9, 15, 43), (0, 9, 18, 45)], false, 20)
theorem jm_L_shareMisclosure : jk_mH yL_shareMisclosure mL_shareMisclosure [(0, 9, 12, 19), (0, 9, 15, 43), (0, 9, 18, 45)] 3 := ⟨⟨jw_1048, jw_0, ⟨by decide +kernel, by decide +kernel⟩, by decide +kernel, by decide +kernel, rfl, by decide, fun h => absurd h (by decide), rfl⟩, jw_1047⟩
theorem w_shareMisclosure {G : jk_G} {n : Nat} {t : jk_T} {σ : jk_I} {ρ : jk_P} {x o mc ms : Nat} {p0 : Int} {Q1 : jk_Q} {X1 : jk_X} (hzn : zn_ok G) (hx : t x = some (.inr 12)) (K : jk_K G yX12_shareMisclosure mX12_shareMisclosure mc ms [.ref x, jI p0] n t σ ρ Q1 X1) (hQ : ∀ v' n' t' σ' ρ', Q1 v' n' t' σ' ρ' → (∃ v, v' = some (jI v)) ∧ t' o = some (.inl (.long, 1))) (hX : ∀ E n' t' σ' ρ', X1 E n' t' σ' ρ' → E = "java/lang/IndexOutOfBoundsException" ∨ E = "java/util/NoSuchElementException" ∨ E = "java/lang/UnsupportedOperationException") : jk_KH G yL_shareMisclosure mL_shareMisclosure [(0, 9, 12, 19), (0, 9, 15, 43), (0, 9, 18, 45)] mc ms [.ref x, jI p0, .ref o] n t σ ρ (wQ o ["java/lang/IndexOutOfBoundsException", "java/util/NoSuchElementException", "java/lang/UnsupportedOperationException"] Q1 X1) jk_no := by
  refine jk_entryH (ls := [some (.ref x), some (jI p0), some (.ref o), none]) jm_L_shareMisclosure rfl rfl rfl ?_
  refine jk_aload_n (q := 1) dL_shareMisclosure_0 rfl rfl ?_
  refine jk_iconst (q := 2) dL_shareMisclosure_1 rfl ?_
  refine jk_aload_n (q := 3) dL_shareMisclosure_2 rfl rfl ?_
  refine jk_iload_n (q := 4) dL_shareMisclosure_3 rfl rfl ?_
  refine jk_callVC (q := 7) (k := 12) (As := [jI p0]) K jm_X12_shareMisclosure jw_1051 rfl hx rfl rfl rfl (Nat.le_refl _) (Nat.le_refl _) dL_shareMisclosure_4 rfl (fun v' n' t' σ' ρ' hq => ?_) (fun E n' t' σ' ρ' hx9 => ?_)
  · obtain ⟨⟨v, rfl⟩, hto⟩ := hQ _ _ _ _ _ hq
    simp only [Option.toList_some, List.cons_append, List.nil_append]
    refine jk_i2lw (q := 8) dL_shareMisclosure_7 rfl ?_
    refine jk_lastR (q := 9) (by first | exact hto | exact hx) (by rfl) (by first | decide | omega) dL_shareMisclosure_8 rfl ?_
    refine jk_goto (q := 21) dL_shareMisclosure_9 rfl ?_
    refine jk_iconst (q := 22) dL_shareMisclosure_21 rfl ?_
    exact jk_iret rfl dL_shareMisclosure_22 (by exact Or.inl ⟨v, σ', hq, rfl, rfl⟩)
  · rcases hX _ _ _ _ _ hx9 with rfl | rfl | rfl
    · refine ⟨[], ⟨0, 9, 12, 19⟩, [⟨0, 9, 15, 43⟩, ⟨0, 9, 18, 45⟩], "java/lang/IndexOutOfBoundsException", rfl, (fun z hz => absurd hz List.not_mem_nil), rfl, by decide, jw_973, jw_593, fun a => ?_⟩
      refine jk_astore3 (q := 13) dL_shareMisclosure_12 rfl rfl rfl ?_
      refine jk_iconst (q := 14) dL_shareMisclosure_13 rfl ?_
      exact jk_iret rfl dL_shareMisclosure_14 (by exact Or.inr ⟨0, by decide, hx9, rfl⟩)
    · refine ⟨[⟨0, 9, 12, 19⟩], ⟨0, 9, 15, 43⟩, [⟨0, 9, 18, 45⟩], "java/util/NoSuchElementException", rfl, (fun z hz => by
        rcases List.mem_cons.mp hz with rfl | hz
        · exact ⟨by decide, "java/lang/IndexOutOfBoundsException", jw_973, fun s h => (hzn s h).2.2.2.2.2.2⟩
        exact absurd hz List.not_mem_nil), rfl, by decide, jw_1049, jw_697, fun a => ?_⟩
      refine jk_astore3 (q := 16) dL_shareMisclosure_15 rfl rfl rfl ?_
      refine jk_iconst (q := 17) dL_shareMisclosure_16 rfl ?_
      exact jk_iret rfl dL_shareMisclosure_17 (by exact Or.inr ⟨1, by decide, hx9, rfl⟩)
    · refine ⟨[⟨0, 9, 12, 19⟩, ⟨0, 9, 15, 43⟩], ⟨0, 9, 18, 45⟩, [], "java/lang/UnsupportedOperationException", rfl, (fun z hz => by
        rcases List.mem_cons.mp hz with rfl | hz
        · exact ⟨by decide, "java/lang/IndexOutOfBoundsException", jw_973, fun s h => (hzn s h).2.2.1⟩
        rcases List.mem_cons.mp hz with rfl | hz
        · exact ⟨by decide, "java/util/NoSuchElementException", jw_1049, fun s h => (hzn s h).2.1⟩
        exact absurd hz List.not_mem_nil), rfl, by decide, jw_1050, jw_713, fun a => ?_⟩
      refine jk_astore3 (q := 19) dL_shareMisclosure_18 rfl rfl rfl ?_
      refine jk_iconst (q := 20) dL_shareMisclosure_19 rfl ?_
      exact jk_iret rfl dL_shareMisclosure_20 (by exact Or.inr ⟨2, by decide, hx9, rfl⟩)
abbrev mL_addProfile : jk_M := ("LevelingNetworkLaw", cL_addProfile, 4, (some FieldType.int), tableOf [(0, 9, 12, 19), (0, 9, 15, 13)], false, 20)
theorem jm_L_addProfile : jk_mH yL_addProfile mL_addProfile [(0, 9, 12, 19), (0, 9, 15, 13)] 3 := ⟨⟨jw_1059, jw_0, ⟨by decide +kernel, by decide +kernel⟩, by decide +kernel, by decide +kernel, rfl, by decide, fun h => absurd h (by decide), rfl⟩, jw_1058⟩
theorem w_addProfile {G : jk_G} {n : Nat} {t : jk_T} {σ : jk_I} {ρ : jk_P} {x o mc ms : Nat} {p0 : Int} {Q1 : jk_Q} {X1 : jk_X} (hzn : zn_ok G) (hx : t x = some (.inr 12)) (K : jk_K G yX12_addProfile mX12_addProfile mc ms [.ref x, jI p0] n t σ ρ Q1 X1) (hQ : ∀ v' n' t' σ' ρ', Q1 v' n' t' σ' ρ' → (∃ v, v' = some (jI v)) ∧ t' o = some (.inl (.long, 1))) (hX : ∀ E n' t' σ' ρ', X1 E n' t' σ' ρ' → E = "java/lang/IndexOutOfBoundsException" ∨ E = "java/lang/IllegalStateException") : jk_KH G yL_addProfile mL_addProfile [(0, 9, 12, 19), (0, 9, 15, 13)] mc ms [.ref x, jI p0, .ref o] n t σ ρ (wQ o ["java/lang/IndexOutOfBoundsException", "java/lang/IllegalStateException"] Q1 X1) jk_no := by
  refine jk_entryH (ls := [some (.ref x), some (jI p0), some (.ref o), none]) jm_L_addProfile rfl rfl rfl ?_
  refine jk_aload_n (q := 1) dL_addProfile_0 rfl rfl ?_
  refine jk_iconst (q := 2) dL_addProfile_1 rfl ?_
  refine jk_aload_n (q := 3) dL_addProfile_2 rfl rfl ?_
  refine jk_iload_n (q := 4) dL_addProfile_3 rfl rfl ?_
  refine jk_callVC (q := 7) (k := 12) (As := [jI p0]) K jm_X12_addProfile jw_1060 rfl hx rfl rfl rfl (Nat.le_refl _) (Nat.le_refl _) dL_addProfile_4 rfl (fun v' n' t' σ' ρ' hq => ?_) (fun E n' t' σ' ρ' hx9 => ?_)
  · obtain ⟨⟨v, rfl⟩, hto⟩ := hQ _ _ _ _ _ hq
    simp only [Option.toList_some, List.cons_append, List.nil_append]
    refine jk_i2lw (q := 8) dL_addProfile_7 rfl ?_
    refine jk_lastR (q := 9) (by first | exact hto | exact hx) (by rfl) (by first | decide | omega) dL_addProfile_8 rfl ?_
    refine jk_goto (q := 18) dL_addProfile_9 rfl ?_
    refine jk_iconst (q := 19) dL_addProfile_18 rfl ?_
    exact jk_iret rfl dL_addProfile_19 (by exact Or.inl ⟨v, σ', hq, rfl, rfl⟩)
  · rcases hX _ _ _ _ _ hx9 with rfl | rfl
    · refine ⟨[], ⟨0, 9, 12, 19⟩, [⟨0, 9, 15, 13⟩], "java/lang/IndexOutOfBoundsException", rfl, (fun z hz => absurd hz List.not_mem_nil), rfl, by decide, jw_973, jw_593, fun a => ?_⟩
      refine jk_astore3 (q := 13) dL_addProfile_12 rfl rfl rfl ?_
      refine jk_iconst (q := 14) dL_addProfile_13 rfl ?_
      exact jk_iret rfl dL_addProfile_14 (by exact Or.inr ⟨0, by decide, hx9, rfl⟩)
    · refine ⟨[⟨0, 9, 12, 19⟩], ⟨0, 9, 15, 13⟩, [], "java/lang/IllegalStateException", rfl, (fun z hz => by
        rcases List.mem_cons.mp hz with rfl | hz
        · exact ⟨by decide, "java/lang/IndexOutOfBoundsException", jw_973, fun s h => (hzn s h).1⟩
        exact absurd hz List.not_mem_nil), rfl, by decide, jw_963, jw_681, fun a => ?_⟩
      refine jk_astore3 (q := 16) dL_addProfile_15 rfl rfl rfl ?_
      refine jk_iconst (q := 17) dL_addProfile_16 rfl ?_
      exact jk_iret rfl dL_addProfile_17 (by exact Or.inr ⟨1, by decide, hx9, rfl⟩)
abbrev mL_addStation : jk_M := ("LevelingNetworkLaw", cL_addStation, 6, (some FieldType.int), tableOf [(0, 12, 15, 19), (0, 12, 19, 21), (0, 12, 23, 13)], false, 20)
theorem jm_L_addStation : jk_mH yL_addStation mL_addStation [(0, 12, 15, 19), (0, 12, 19, 21), (0, 12, 23, 13)] 5 := ⟨⟨jw_1068, jw_0, ⟨by decide +kernel, by decide +kernel⟩, by decide +kernel, by decide +kernel, rfl, by decide, fun h => absurd h (by decide), rfl⟩, jw_1067⟩
theorem w_addStation {G : jk_G} {n : Nat} {t : jk_T} {σ : jk_I} {ρ : jk_P} {x o mc ms : Nat} {p0 p1 p2 : Int} {Q1 : jk_Q} {X1 : jk_X} (hzn : zn_ok G) (hx : t x = some (.inr 12)) (K : jk_K G yX12_addStation mX12_addStation mc ms [.ref x, jI p0, jI p1, jI p2] n t σ ρ Q1 X1) (hQ : ∀ v' n' t' σ' ρ', Q1 v' n' t' σ' ρ' → (∃ v, v' = some (jI v)) ∧ t' o = some (.inl (.long, 1))) (hX : ∀ E n' t' σ' ρ', X1 E n' t' σ' ρ' → E = "java/lang/IndexOutOfBoundsException" ∨ E = "java/lang/IllegalArgumentException" ∨ E = "java/lang/IllegalStateException") : jk_KH G yL_addStation mL_addStation [(0, 12, 15, 19), (0, 12, 19, 21), (0, 12, 23, 13)] mc ms [.ref x, jI p0, jI p1, jI p2, .ref o] n t σ ρ (wQ o ["java/lang/IndexOutOfBoundsException", "java/lang/IllegalArgumentException", "java/lang/IllegalStateException"] Q1 X1) jk_no := by
  refine jk_entryH (ls := [some (.ref x), some (jI p0), some (jI p1), some (jI p2), some (.ref o), none]) jm_L_addStation rfl rfl rfl ?_
  refine jk_aload (q := 2) dL_addStation_0 rfl rfl ?_
  refine jk_iconst (q := 3) dL_addStation_2 rfl ?_
  refine jk_aload_n (q := 4) dL_addStation_3 rfl rfl ?_
  refine jk_iload_n (q := 5) dL_addStation_4 rfl rfl ?_
  refine jk_iload_n (q := 6) dL_addStation_5 rfl rfl ?_
  refine jk_iload_n (q := 7) dL_addStation_6 rfl rfl ?_
  refine jk_callVC (q := 10) (k := 12) (As := [jI p0, jI p1, jI p2]) K jm_X12_addStation jw_1069 rfl hx rfl rfl rfl (Nat.le_refl _) (Nat.le_refl _) dL_addStation_7 rfl (fun v' n' t' σ' ρ' hq => ?_) (fun E n' t' σ' ρ' hx9 => ?_)
  · obtain ⟨⟨v, rfl⟩, hto⟩ := hQ _ _ _ _ _ hq
    simp only [Option.toList_some, List.cons_append, List.nil_append]
    refine jk_i2lw (q := 11) dL_addStation_10 rfl ?_
    refine jk_lastR (q := 12) (by first | exact hto | exact hx) (by rfl) (by first | decide | omega) dL_addStation_11 rfl ?_
    refine jk_goto (q := 27) dL_addStation_12 rfl ?_
    refine jk_iconst (q := 28) dL_addStation_27 rfl ?_
    exact jk_iret rfl dL_addStation_28 (by exact Or.inl ⟨v, σ', hq, rfl, rfl⟩)
  · rcases hX _ _ _ _ _ hx9 with rfl | rfl | rfl
    · refine ⟨[], ⟨0, 12, 15, 19⟩, [⟨0, 12, 19, 21⟩, ⟨0, 12, 23, 13⟩], "java/lang/IndexOutOfBoundsException", rfl, (fun z hz => absurd hz List.not_mem_nil), rfl, by decide, jw_973, jw_593, fun a => ?_⟩
      refine jk_astore5 (q := 17) dL_addStation_15 rfl rfl rfl ?_
      refine jk_iconst (q := 18) dL_addStation_17 rfl ?_
      exact jk_iret rfl dL_addStation_18 (by exact Or.inr ⟨0, by decide, hx9, rfl⟩)
    · refine ⟨[⟨0, 12, 15, 19⟩], ⟨0, 12, 19, 21⟩, [⟨0, 12, 23, 13⟩], "java/lang/IllegalArgumentException", rfl, (fun z hz => by
        rcases List.mem_cons.mp hz with rfl | hz
        · exact ⟨by decide, "java/lang/IndexOutOfBoundsException", jw_973, fun s h => (hzn s h).2.2.2.2.1⟩
        exact absurd hz List.not_mem_nil), rfl, by decide, jw_994, jw_665, fun a => ?_⟩
      refine jk_astore5 (q := 21) dL_addStation_19 rfl rfl rfl ?_
      refine jk_iconst (q := 22) dL_addStation_21 rfl ?_
      exact jk_iret rfl dL_addStation_22 (by exact Or.inr ⟨1, by decide, hx9, rfl⟩)
    · refine ⟨[⟨0, 12, 15, 19⟩, ⟨0, 12, 19, 21⟩], ⟨0, 12, 23, 13⟩, [], "java/lang/IllegalStateException", rfl, (fun z hz => by
        rcases List.mem_cons.mp hz with rfl | hz
        · exact ⟨by decide, "java/lang/IndexOutOfBoundsException", jw_973, fun s h => (hzn s h).1⟩
        rcases List.mem_cons.mp hz with rfl | hz
        · exact ⟨by decide, "java/lang/IllegalArgumentException", jw_994, fun s h => (hzn s h).2.2.2.2.2.1⟩
        exact absurd hz List.not_mem_nil), rfl, by decide, jw_963, jw_681, fun a => ?_⟩
      refine jk_astore5 (q := 25) dL_addStation_23 rfl rfl rfl ?_
      refine jk_iconst (q := 26) dL_addStation_25 rfl ?_
      exact jk_iret rfl dL_addStation_26 (by exact Or.inr ⟨2, by decide, hx9, rfl⟩)
abbrev mL_setWaterLevel : jk_M := ("LevelingNetworkLaw", cL_setWaterLevel, 4, (some FieldType.int), tableOf [(0, 9, 12, 21)], false, 20)
theorem jm_L_setWaterLevel : jk_mH yL_setWaterLevel mL_setWaterLevel [(0, 9, 12, 21)] 3 := ⟨⟨jw_1077, jw_0, ⟨by decide +kernel, by decide +kernel⟩, by decide +kernel, by decide +kernel, rfl, by decide, fun h => absurd h (by decide), rfl⟩, jw_1076⟩
theorem w_setWaterLevel {G : jk_G} {n : Nat} {t : jk_T} {σ : jk_I} {ρ : jk_P} {x o mc ms : Nat} {p0 : Int} {Q1 : jk_Q} {X1 : jk_X} (hzn : zn_ok G) (hx : t x = some (.inr 12)) (K : jk_K G yX12_setWaterLevel mX12_setWaterLevel mc ms [.ref x, jI p0] n t σ ρ Q1 X1) (hQ : ∀ v' n' t' σ' ρ', Q1 v' n' t' σ' ρ' → (∃ v, v' = some (jI v)) ∧ t' o = some (.inl (.long, 1))) (hX : ∀ E n' t' σ' ρ', X1 E n' t' σ' ρ' → E = "java/lang/IllegalArgumentException") : jk_KH G yL_setWaterLevel mL_setWaterLevel [(0, 9, 12, 21)] mc ms [.ref x, jI p0, .ref o] n t σ ρ (wQ o ["java/lang/IllegalArgumentException"] Q1 X1) jk_no := by
  refine jk_entryH (ls := [some (.ref x), some (jI p0), some (.ref o), none]) jm_L_setWaterLevel rfl rfl rfl ?_
  refine jk_aload_n (q := 1) dL_setWaterLevel_0 rfl rfl ?_
  refine jk_iconst (q := 2) dL_setWaterLevel_1 rfl ?_
  refine jk_aload_n (q := 3) dL_setWaterLevel_2 rfl rfl ?_
  refine jk_iload_n (q := 4) dL_setWaterLevel_3 rfl rfl ?_
  refine jk_callVC (q := 7) (k := 12) (As := [jI p0]) K jm_X12_setWaterLevel jw_1078 rfl hx rfl rfl rfl (Nat.le_refl _) (Nat.le_refl _) dL_setWaterLevel_4 rfl (fun v' n' t' σ' ρ' hq => ?_) (fun E n' t' σ' ρ' hx9 => ?_)
  · obtain ⟨⟨v, rfl⟩, hto⟩ := hQ _ _ _ _ _ hq
    simp only [Option.toList_some, List.cons_append, List.nil_append]
    refine jk_i2lw (q := 8) dL_setWaterLevel_7 rfl ?_
    refine jk_lastR (q := 9) (by first | exact hto | exact hx) (by rfl) (by first | decide | omega) dL_setWaterLevel_8 rfl ?_
    refine jk_goto (q := 15) dL_setWaterLevel_9 rfl ?_
    refine jk_iconst (q := 16) dL_setWaterLevel_15 rfl ?_
    exact jk_iret rfl dL_setWaterLevel_16 (by exact Or.inl ⟨v, σ', hq, rfl, rfl⟩)
  · obtain rfl := hX _ _ _ _ _ hx9
    · refine ⟨[], ⟨0, 9, 12, 21⟩, [], "java/lang/IllegalArgumentException", rfl, (fun z hz => absurd hz List.not_mem_nil), rfl, by decide, jw_994, jw_665, fun a => ?_⟩
      refine jk_astore3 (q := 13) dL_setWaterLevel_12 rfl rfl rfl ?_
      refine jk_iconst (q := 14) dL_setWaterLevel_13 rfl ?_
      exact jk_iret rfl dL_setWaterLevel_14 (by exact Or.inr ⟨0, by decide, hx9, rfl⟩)
abbrev mL_isFixed : jk_M := ("LevelingNetworkLaw", cL_isFixed, 4, (some FieldType.int), tableOf [(0, 16, 19, 19)], false, 11)
theorem jm_L_isFixed : jk_mH yL_isFixed mL_isFixed [(0, 16, 19, 19)] 3 := ⟨⟨jw_1086, jw_0, ⟨by decide +kernel, by decide +kernel⟩, by decide +kernel, by decide +kernel, rfl, by decide, fun h => absurd h (by decide), rfl⟩, jw_1085⟩
theorem w_isFixed {G : jk_G} {n : Nat} {t : jk_T} {σ : jk_I} {ρ : jk_P} {x o mc ms : Nat} {p0 : Int} {Q1 : jk_Q} {X1 : jk_X} (hzn : zn_ok G) (hx : t x = some (.inr 12)) (K : jk_K G yX12_isFixed mX12_isFixed mc ms [.ref x, jI p0] n t σ ρ Q1 X1) (hQ : ∀ v' n' t' σ' ρ', Q1 v' n' t' σ' ρ' → (∃ b : Bool, v' = some (jI (jB b))) ∧ t' o = some (.inl (.long, 1))) (hX : ∀ E n' t' σ' ρ', X1 E n' t' σ' ρ' → E = "java/lang/IndexOutOfBoundsException") : jk_KH G yL_isFixed mL_isFixed [(0, 16, 19, 19)] mc ms [.ref x, jI p0, .ref o] n t σ ρ (wQ o ["java/lang/IndexOutOfBoundsException"] Q1 X1) jk_no := by
  refine jk_entryH (ls := [some (.ref x), some (jI p0), some (.ref o), none]) jm_L_isFixed rfl rfl rfl ?_
  refine jk_aload_n (q := 1) dL_isFixed_0 rfl rfl ?_
  refine jk_iconst (q := 2) dL_isFixed_1 rfl ?_
  refine jk_aload_n (q := 3) dL_isFixed_2 rfl rfl ?_
  refine jk_iload_n (q := 4) dL_isFixed_3 rfl rfl ?_
  refine jk_callVC (q := 7) (k := 12) (As := [jI p0]) K jm_X12_isFixed jw_1087 rfl hx rfl rfl rfl (Nat.le_refl _) (Nat.le_refl _) dL_isFixed_4 rfl (fun v' n' t' σ' ρ' hq => ?_) (fun E n' t' σ' ρ' hx9 => ?_)
  · obtain ⟨⟨b, rfl⟩, hto⟩ := hQ _ _ _ _ _ hq
    simp only [Option.toList_some, List.cons_append, List.nil_append]
    refine jk_ifB_eq (q := 14) (q2 := 10) dL_isFixed_7 rfl rfl (fun h1 => ?_) (fun h1 => ?_)
    · refine jk_lconst (q := 15) (y := 0) dL_isFixed_14 rfl (by decide) ?_
      refine jk_lastR (q := 16) (by first | exact hto | exact hx) (by rfl) (by first | decide | omega) dL_isFixed_15 rfl ?_
      refine jk_goto (q := 22) dL_isFixed_16 rfl ?_
      refine jk_iconst (q := 23) dL_isFixed_22 rfl ?_
      exact jk_iret rfl dL_isFixed_23 (by first | exact Or.inl ⟨1, σ', by (have h9 : b = true := by assumption); subst h9; exact hq, rfl, rfl⟩ | exact Or.inl ⟨0, σ', by (have h9 : b = false := by assumption); subst h9; exact hq, rfl, rfl⟩)
    · refine jk_lconst (q := 11) (y := 1) dL_isFixed_10 rfl (by decide) ?_
      refine jk_goto (q := 15) dL_isFixed_11 rfl ?_
      refine jk_lastR (q := 16) (by first | exact hto | exact hx) (by rfl) (by first | decide | omega) dL_isFixed_15 rfl ?_
      refine jk_goto (q := 22) dL_isFixed_16 rfl ?_
      refine jk_iconst (q := 23) dL_isFixed_22 rfl ?_
      exact jk_iret rfl dL_isFixed_23 (by first | exact Or.inl ⟨1, σ', by (have h9 : b = true := by assumption); subst h9; exact hq, rfl, rfl⟩ | exact Or.inl ⟨0, σ', by (have h9 : b = false := by assumption); subst h9; exact hq, rfl, rfl⟩)
  · obtain rfl := hX _ _ _ _ _ hx9
    · refine ⟨[], ⟨0, 16, 19, 19⟩, [], "java/lang/IndexOutOfBoundsException", rfl, (fun z hz => absurd hz List.not_mem_nil), rfl, by decide, jw_973, jw_593, fun a => ?_⟩
      refine jk_astore3 (q := 20) dL_isFixed_19 rfl rfl rfl ?_
      refine jk_iconst (q := 21) dL_isFixed_20 rfl ?_
      exact jk_iret rfl dL_isFixed_21 (by exact Or.inr ⟨0, by decide, hx9, rfl⟩)
abbrev mL_hasHeight : jk_M := ("LevelingNetworkLaw", cL_hasHeight, 4, (some FieldType.int), tableOf [(0, 16, 19, 19)], false, 11)
theorem jm_L_hasHeight : jk_mH yL_hasHeight mL_hasHeight [(0, 16, 19, 19)] 3 := ⟨⟨jw_1099, jw_0, ⟨by decide +kernel, by decide +kernel⟩, by decide +kernel, by decide +kernel, rfl, by decide, fun h => absurd h (by decide), rfl⟩, jw_1098⟩
theorem w_hasHeight {G : jk_G} {n : Nat} {t : jk_T} {σ : jk_I} {ρ : jk_P} {x o mc ms : Nat} {p0 : Int} {Q1 : jk_Q} {X1 : jk_X} (hzn : zn_ok G) (hx : t x = some (.inr 12)) (K : jk_K G yX12_hasHeight mX12_hasHeight mc ms [.ref x, jI p0] n t σ ρ Q1 X1) (hQ : ∀ v' n' t' σ' ρ', Q1 v' n' t' σ' ρ' → (∃ b : Bool, v' = some (jI (jB b))) ∧ t' o = some (.inl (.long, 1))) (hX : ∀ E n' t' σ' ρ', X1 E n' t' σ' ρ' → E = "java/lang/IndexOutOfBoundsException") : jk_KH G yL_hasHeight mL_hasHeight [(0, 16, 19, 19)] mc ms [.ref x, jI p0, .ref o] n t σ ρ (wQ o ["java/lang/IndexOutOfBoundsException"] Q1 X1) jk_no := by
  refine jk_entryH (ls := [some (.ref x), some (jI p0), some (.ref o), none]) jm_L_hasHeight rfl rfl rfl ?_
  refine jk_aload_n (q := 1) dL_hasHeight_0 rfl rfl ?_
  refine jk_iconst (q := 2) dL_hasHeight_1 rfl ?_
  refine jk_aload_n (q := 3) dL_hasHeight_2 rfl rfl ?_
  refine jk_iload_n (q := 4) dL_hasHeight_3 rfl rfl ?_
  refine jk_callVC (q := 7) (k := 12) (As := [jI p0]) K jm_X12_hasHeight jw_1100 rfl hx rfl rfl rfl (Nat.le_refl _) (Nat.le_refl _) dL_hasHeight_4 rfl (fun v' n' t' σ' ρ' hq => ?_) (fun E n' t' σ' ρ' hx9 => ?_)
  · obtain ⟨⟨b, rfl⟩, hto⟩ := hQ _ _ _ _ _ hq
    simp only [Option.toList_some, List.cons_append, List.nil_append]
    refine jk_ifB_eq (q := 14) (q2 := 10) dL_hasHeight_7 rfl rfl (fun h1 => ?_) (fun h1 => ?_)
    · refine jk_lconst (q := 15) (y := 0) dL_hasHeight_14 rfl (by decide) ?_
      refine jk_lastR (q := 16) (by first | exact hto | exact hx) (by rfl) (by first | decide | omega) dL_hasHeight_15 rfl ?_
      refine jk_goto (q := 22) dL_hasHeight_16 rfl ?_
      refine jk_iconst (q := 23) dL_hasHeight_22 rfl ?_
      exact jk_iret rfl dL_hasHeight_23 (by first | exact Or.inl ⟨1, σ', by (have h9 : b = true := by assumption); subst h9; exact hq, rfl, rfl⟩ | exact Or.inl ⟨0, σ', by (have h9 : b = false := by assumption); subst h9; exact hq, rfl, rfl⟩)
    · refine jk_lconst (q := 11) (y := 1) dL_hasHeight_10 rfl (by decide) ?_
      refine jk_goto (q := 15) dL_hasHeight_11 rfl ?_
      refine jk_lastR (q := 16) (by first | exact hto | exact hx) (by rfl) (by first | decide | omega) dL_hasHeight_15 rfl ?_
      refine jk_goto (q := 22) dL_hasHeight_16 rfl ?_
      refine jk_iconst (q := 23) dL_hasHeight_22 rfl ?_
      exact jk_iret rfl dL_hasHeight_23 (by first | exact Or.inl ⟨1, σ', by (have h9 : b = true := by assumption); subst h9; exact hq, rfl, rfl⟩ | exact Or.inl ⟨0, σ', by (have h9 : b = false := by assumption); subst h9; exact hq, rfl, rfl⟩)
  · obtain rfl := hX _ _ _ _ _ hx9
    · refine ⟨[], ⟨0, 16, 19, 19⟩, [], "java/lang/IndexOutOfBoundsException", rfl, (fun z hz => absurd hz List.not_mem_nil), rfl, by decide, jw_973, jw_593, fun a => ?_⟩
      refine jk_astore3 (q := 20) dL_hasHeight_19 rfl rfl rfl ?_
      refine jk_iconst (q := 21) dL_hasHeight_20 rfl ?_
      exact jk_iret rfl dL_hasHeight_21 (by exact Or.inr ⟨0, by decide, hx9, rfl⟩)
abbrev mL_height : jk_M := ("LevelingNetworkLaw", cL_height, 4, (some FieldType.int), tableOf [(0, 9, 12, 19), (0, 9, 15, 43)], false, 19)
theorem jm_L_height : jk_mH yL_height mL_height [(0, 9, 12, 19), (0, 9, 15, 43)] 3 := ⟨⟨jw_1106, jw_0, ⟨by decide +kernel, by decide +kernel⟩, by decide +kernel, by decide +kernel, rfl, by decide, fun h => absurd h (by decide), rfl⟩, jw_1105⟩
theorem w_height {G : jk_G} {n : Nat} {t : jk_T} {σ : jk_I} {ρ : jk_P} {x o mc ms : Nat} {p0 : Int} {Q1 : jk_Q} {X1 : jk_X} (hzn : zn_ok G) (hx : t x = some (.inr 12)) (K : jk_K G yX12_height mX12_height mc ms [.ref x, jI p0] n t σ ρ Q1 X1) (hQ : ∀ v' n' t' σ' ρ', Q1 v' n' t' σ' ρ' → (∃ v, v' = some (jI v)) ∧ t' o = some (.inl (.long, 1))) (hX : ∀ E n' t' σ' ρ', X1 E n' t' σ' ρ' → E = "java/lang/IndexOutOfBoundsException" ∨ E = "java/util/NoSuchElementException") : jk_KH G yL_height mL_height [(0, 9, 12, 19), (0, 9, 15, 43)] mc ms [.ref x, jI p0, .ref o] n t σ ρ (wQ o ["java/lang/IndexOutOfBoundsException", "java/util/NoSuchElementException"] Q1 X1) jk_no := by
  refine jk_entryH (ls := [some (.ref x), some (jI p0), some (.ref o), none]) jm_L_height rfl rfl rfl ?_
  refine jk_aload_n (q := 1) dL_height_0 rfl rfl ?_
  refine jk_iconst (q := 2) dL_height_1 rfl ?_
  refine jk_aload_n (q := 3) dL_height_2 rfl rfl ?_
  refine jk_iload_n (q := 4) dL_height_3 rfl rfl ?_
  refine jk_callVC (q := 7) (k := 12) (As := [jI p0]) K jm_X12_height jw_1107 rfl hx rfl rfl rfl (Nat.le_refl _) (Nat.le_refl _) dL_height_4 rfl (fun v' n' t' σ' ρ' hq => ?_) (fun E n' t' σ' ρ' hx9 => ?_)
  · obtain ⟨⟨v, rfl⟩, hto⟩ := hQ _ _ _ _ _ hq
    simp only [Option.toList_some, List.cons_append, List.nil_append]
    refine jk_i2lw (q := 8) dL_height_7 rfl ?_
    refine jk_lastR (q := 9) (by first | exact hto | exact hx) (by rfl) (by first | decide | omega) dL_height_8 rfl ?_
    refine jk_goto (q := 18) dL_height_9 rfl ?_
    refine jk_iconst (q := 19) dL_height_18 rfl ?_
    exact jk_iret rfl dL_height_19 (by exact Or.inl ⟨v, σ', hq, rfl, rfl⟩)
  · rcases hX _ _ _ _ _ hx9 with rfl | rfl
    · refine ⟨[], ⟨0, 9, 12, 19⟩, [⟨0, 9, 15, 43⟩], "java/lang/IndexOutOfBoundsException", rfl, (fun z hz => absurd hz List.not_mem_nil), rfl, by decide, jw_973, jw_593, fun a => ?_⟩
      refine jk_astore3 (q := 13) dL_height_12 rfl rfl rfl ?_
      refine jk_iconst (q := 14) dL_height_13 rfl ?_
      exact jk_iret rfl dL_height_14 (by exact Or.inr ⟨0, by decide, hx9, rfl⟩)
    · refine ⟨[⟨0, 9, 12, 19⟩], ⟨0, 9, 15, 43⟩, [], "java/util/NoSuchElementException", rfl, (fun z hz => by
        rcases List.mem_cons.mp hz with rfl | hz
        · exact ⟨by decide, "java/lang/IndexOutOfBoundsException", jw_973, fun s h => (hzn s h).2.2.2.2.2.2⟩
        exact absurd hz List.not_mem_nil), rfl, by decide, jw_1049, jw_697, fun a => ?_⟩
      refine jk_astore3 (q := 16) dL_height_15 rfl rfl rfl ?_
      refine jk_iconst (q := 17) dL_height_16 rfl ?_
      exact jk_iret rfl dL_height_17 (by exact Or.inr ⟨1, by decide, hx9, rfl⟩)
abbrev mL_heightByRounds : jk_M := ("LevelingNetworkLaw", cL_heightByRounds, 4, (some FieldType.int), tableOf [(0, 9, 12, 19), (0, 9, 15, 43)], false, 11)
theorem jm_L_heightByRounds : jk_mH yL_heightByRounds mL_heightByRounds [(0, 9, 12, 19), (0, 9, 15, 43)] 3 := ⟨⟨jw_1118, jw_0, ⟨by decide +kernel, by decide +kernel⟩, by decide +kernel, by decide +kernel, rfl, by decide, fun h => absurd h (by decide), rfl⟩, jw_1117⟩
theorem w_heightByRounds {G : jk_G} {n : Nat} {t : jk_T} {σ : jk_I} {ρ : jk_P} {x o mc ms : Nat} {p0 : Int} {Q1 : jk_Q} {X1 : jk_X} (hzn : zn_ok G) (hx : t x = some (.inr 12)) (K : jk_K G yX12_heightByRounds mX12_heightByRounds mc ms [.ref x, jI p0] n t σ ρ Q1 X1) (hQ : ∀ v' n' t' σ' ρ', Q1 v' n' t' σ' ρ' → (∃ v, v' = some (jI v)) ∧ t' o = some (.inl (.long, 1))) (hX : ∀ E n' t' σ' ρ', X1 E n' t' σ' ρ' → E = "java/lang/IndexOutOfBoundsException" ∨ E = "java/util/NoSuchElementException") : jk_KH G yL_heightByRounds mL_heightByRounds [(0, 9, 12, 19), (0, 9, 15, 43)] mc ms [.ref x, jI p0, .ref o] n t σ ρ (wQ o ["java/lang/IndexOutOfBoundsException", "java/util/NoSuchElementException"] Q1 X1) jk_no := by
  refine jk_entryH (ls := [some (.ref x), some (jI p0), some (.ref o), none]) jm_L_heightByRounds rfl rfl rfl ?_
  refine jk_aload_n (q := 1) dL_heightByRounds_0 rfl rfl ?_
  refine jk_iconst (q := 2) dL_heightByRounds_1 rfl ?_
  refine jk_aload_n (q := 3) dL_heightByRounds_2 rfl rfl ?_
  refine jk_iload_n (q := 4) dL_heightByRounds_3 rfl rfl ?_
  refine jk_callVC (q := 7) (k := 12) (As := [jI p0]) K jm_X12_heightByRounds jw_1119 rfl hx rfl rfl rfl (Nat.le_refl _) (Nat.le_refl _) dL_heightByRounds_4 rfl (fun v' n' t' σ' ρ' hq => ?_) (fun E n' t' σ' ρ' hx9 => ?_)
  · obtain ⟨⟨v, rfl⟩, hto⟩ := hQ _ _ _ _ _ hq
    simp only [Option.toList_some, List.cons_append, List.nil_append]
    refine jk_i2lw (q := 8) dL_heightByRounds_7 rfl ?_
    refine jk_lastR (q := 9) (by first | exact hto | exact hx) (by rfl) (by first | decide | omega) dL_heightByRounds_8 rfl ?_
    refine jk_goto (q := 18) dL_heightByRounds_9 rfl ?_
    refine jk_iconst (q := 19) dL_heightByRounds_18 rfl ?_
    exact jk_iret rfl dL_heightByRounds_19 (by exact Or.inl ⟨v, σ', hq, rfl, rfl⟩)
  · rcases hX _ _ _ _ _ hx9 with rfl | rfl
    · refine ⟨[], ⟨0, 9, 12, 19⟩, [⟨0, 9, 15, 43⟩], "java/lang/IndexOutOfBoundsException", rfl, (fun z hz => absurd hz List.not_mem_nil), rfl, by decide, jw_973, jw_593, fun a => ?_⟩
      refine jk_astore3 (q := 13) dL_heightByRounds_12 rfl rfl rfl ?_
      refine jk_iconst (q := 14) dL_heightByRounds_13 rfl ?_
      exact jk_iret rfl dL_heightByRounds_14 (by exact Or.inr ⟨0, by decide, hx9, rfl⟩)
    · refine ⟨[⟨0, 9, 12, 19⟩], ⟨0, 9, 15, 43⟩, [], "java/util/NoSuchElementException", rfl, (fun z hz => by
        rcases List.mem_cons.mp hz with rfl | hz
        · exact ⟨by decide, "java/lang/IndexOutOfBoundsException", jw_973, fun s h => (hzn s h).2.2.2.2.2.2⟩
        exact absurd hz List.not_mem_nil), rfl, by decide, jw_1049, jw_697, fun a => ?_⟩
      refine jk_astore3 (q := 16) dL_heightByRounds_15 rfl rfl rfl ?_
      refine jk_iconst (q := 17) dL_heightByRounds_16 rfl ?_
      exact jk_iret rfl dL_heightByRounds_17 (by exact Or.inr ⟨1, by decide, hx9, rfl⟩)
abbrev mL_closingError : jk_M := ("LevelingNetworkLaw", cL_closingError, 4, (some FieldType.int), tableOf [(0, 9, 12, 19), (0, 9, 15, 43)], false, 18)
theorem jm_L_closingError : jk_mH yL_closingError mL_closingError [(0, 9, 12, 19), (0, 9, 15, 43)] 3 := ⟨⟨jw_1125, jw_0, ⟨by decide +kernel, by decide +kernel⟩, by decide +kernel, by decide +kernel, rfl, by decide, fun h => absurd h (by decide), rfl⟩, jw_1124⟩
theorem w_closingError {G : jk_G} {n : Nat} {t : jk_T} {σ : jk_I} {ρ : jk_P} {x o mc ms : Nat} {p0 : Int} {Q1 : jk_Q} {X1 : jk_X} (hzn : zn_ok G) (hx : t x = some (.inr 12)) (K : jk_K G yX12_closingError mX12_closingError mc ms [.ref x, jI p0] n t σ ρ Q1 X1) (hQ : ∀ v' n' t' σ' ρ', Q1 v' n' t' σ' ρ' → (∃ v, v' = some (jI v)) ∧ t' o = some (.inl (.long, 1))) (hX : ∀ E n' t' σ' ρ', X1 E n' t' σ' ρ' → E = "java/lang/IndexOutOfBoundsException" ∨ E = "java/util/NoSuchElementException") : jk_KH G yL_closingError mL_closingError [(0, 9, 12, 19), (0, 9, 15, 43)] mc ms [.ref x, jI p0, .ref o] n t σ ρ (wQ o ["java/lang/IndexOutOfBoundsException", "java/util/NoSuchElementException"] Q1 X1) jk_no := by
  refine jk_entryH (ls := [some (.ref x), some (jI p0), some (.ref o), none]) jm_L_closingError rfl rfl rfl ?_
  refine jk_aload_n (q := 1) dL_closingError_0 rfl rfl ?_
  refine jk_iconst (q := 2) dL_closingError_1 rfl ?_
  refine jk_aload_n (q := 3) dL_closingError_2 rfl rfl ?_
  refine jk_iload_n (q := 4) dL_closingError_3 rfl rfl ?_
  refine jk_callVC (q := 7) (k := 12) (As := [jI p0]) K jm_X12_closingError jw_1126 rfl hx rfl rfl rfl (Nat.le_refl _) (Nat.le_refl _) dL_closingError_4 rfl (fun v' n' t' σ' ρ' hq => ?_) (fun E n' t' σ' ρ' hx9 => ?_)
  · obtain ⟨⟨v, rfl⟩, hto⟩ := hQ _ _ _ _ _ hq
    simp only [Option.toList_some, List.cons_append, List.nil_append]
    refine jk_i2lw (q := 8) dL_closingError_7 rfl ?_
    refine jk_lastR (q := 9) (by first | exact hto | exact hx) (by rfl) (by first | decide | omega) dL_closingError_8 rfl ?_
    refine jk_goto (q := 18) dL_closingError_9 rfl ?_
    refine jk_iconst (q := 19) dL_closingError_18 rfl ?_
    exact jk_iret rfl dL_closingError_19 (by exact Or.inl ⟨v, σ', hq, rfl, rfl⟩)
  · rcases hX _ _ _ _ _ hx9 with rfl | rfl
    · refine ⟨[], ⟨0, 9, 12, 19⟩, [⟨0, 9, 15, 43⟩], "java/lang/IndexOutOfBoundsException", rfl, (fun z hz => absurd hz List.not_mem_nil), rfl, by decide, jw_973, jw_593, fun a => ?_⟩
      refine jk_astore3 (q := 13) dL_closingError_12 rfl rfl rfl ?_
      refine jk_iconst (q := 14) dL_closingError_13 rfl ?_
      exact jk_iret rfl dL_closingError_14 (by exact Or.inr ⟨0, by decide, hx9, rfl⟩)
    · refine ⟨[⟨0, 9, 12, 19⟩], ⟨0, 9, 15, 43⟩, [], "java/util/NoSuchElementException", rfl, (fun z hz => by
        rcases List.mem_cons.mp hz with rfl | hz
        · exact ⟨by decide, "java/lang/IndexOutOfBoundsException", jw_973, fun s h => (hzn s h).2.2.2.2.2.2⟩
        exact absurd hz List.not_mem_nil), rfl, by decide, jw_1049, jw_697, fun a => ?_⟩
      refine jk_astore3 (q := 16) dL_closingError_15 rfl rfl rfl ?_
      refine jk_iconst (q := 17) dL_closingError_16 rfl ?_
      exact jk_iret rfl dL_closingError_17 (by exact Or.inr ⟨1, by decide, hx9, rfl⟩)
abbrev mL_datum : jk_M := ("LevelingNetworkLaw", cL_datum, 4, (some FieldType.int), tableOf [(0, 9, 12, 19), (0, 9, 15, 43)], false, 11)
theorem jm_L_datum : jk_mH yL_datum mL_datum [(0, 9, 12, 19), (0, 9, 15, 43)] 3 := ⟨⟨jw_1134, jw_0, ⟨by decide +kernel, by decide +kernel⟩, by decide +kernel, by decide +kernel, rfl, by decide, fun h => absurd h (by decide), rfl⟩, jw_1133⟩
theorem w_datum {G : jk_G} {n : Nat} {t : jk_T} {σ : jk_I} {ρ : jk_P} {x o mc ms : Nat} {p0 : Int} {Q1 : jk_Q} {X1 : jk_X} (hzn : zn_ok G) (hx : t x = some (.inr 12)) (K : jk_K G yX12_datum mX12_datum mc ms [.ref x, jI p0] n t σ ρ Q1 X1) (hQ : ∀ v' n' t' σ' ρ', Q1 v' n' t' σ' ρ' → (∃ v, v' = some (jI v)) ∧ t' o = some (.inl (.long, 1))) (hX : ∀ E n' t' σ' ρ', X1 E n' t' σ' ρ' → E = "java/lang/IndexOutOfBoundsException" ∨ E = "java/util/NoSuchElementException") : jk_KH G yL_datum mL_datum [(0, 9, 12, 19), (0, 9, 15, 43)] mc ms [.ref x, jI p0, .ref o] n t σ ρ (wQ o ["java/lang/IndexOutOfBoundsException", "java/util/NoSuchElementException"] Q1 X1) jk_no := by
  refine jk_entryH (ls := [some (.ref x), some (jI p0), some (.ref o), none]) jm_L_datum rfl rfl rfl ?_
  refine jk_aload_n (q := 1) dL_datum_0 rfl rfl ?_
  refine jk_iconst (q := 2) dL_datum_1 rfl ?_
  refine jk_aload_n (q := 3) dL_datum_2 rfl rfl ?_
  refine jk_iload_n (q := 4) dL_datum_3 rfl rfl ?_
  refine jk_callVC (q := 7) (k := 12) (As := [jI p0]) K jm_X12_datum jw_1135 rfl hx rfl rfl rfl (Nat.le_refl _) (Nat.le_refl _) dL_datum_4 rfl (fun v' n' t' σ' ρ' hq => ?_) (fun E n' t' σ' ρ' hx9 => ?_)
  · obtain ⟨⟨v, rfl⟩, hto⟩ := hQ _ _ _ _ _ hq
    simp only [Option.toList_some, List.cons_append, List.nil_append]
    refine jk_i2lw (q := 8) dL_datum_7 rfl ?_
    refine jk_lastR (q := 9) (by first | exact hto | exact hx) (by rfl) (by first | decide | omega) dL_datum_8 rfl ?_
    refine jk_goto (q := 18) dL_datum_9 rfl ?_
    refine jk_iconst (q := 19) dL_datum_18 rfl ?_
    exact jk_iret rfl dL_datum_19 (by exact Or.inl ⟨v, σ', hq, rfl, rfl⟩)
  · rcases hX _ _ _ _ _ hx9 with rfl | rfl
    · refine ⟨[], ⟨0, 9, 12, 19⟩, [⟨0, 9, 15, 43⟩], "java/lang/IndexOutOfBoundsException", rfl, (fun z hz => absurd hz List.not_mem_nil), rfl, by decide, jw_973, jw_593, fun a => ?_⟩
      refine jk_astore3 (q := 13) dL_datum_12 rfl rfl rfl ?_
      refine jk_iconst (q := 14) dL_datum_13 rfl ?_
      exact jk_iret rfl dL_datum_14 (by exact Or.inr ⟨0, by decide, hx9, rfl⟩)
    · refine ⟨[⟨0, 9, 12, 19⟩], ⟨0, 9, 15, 43⟩, [], "java/util/NoSuchElementException", rfl, (fun z hz => by
        rcases List.mem_cons.mp hz with rfl | hz
        · exact ⟨by decide, "java/lang/IndexOutOfBoundsException", jw_973, fun s h => (hzn s h).2.2.2.2.2.2⟩
        exact absurd hz List.not_mem_nil), rfl, by decide, jw_1049, jw_697, fun a => ?_⟩
      refine jk_astore3 (q := 16) dL_datum_15 rfl rfl rfl ?_
      refine jk_iconst (q := 17) dL_datum_16 rfl ?_
      exact jk_iret rfl dL_datum_17 (by exact Or.inr ⟨1, by decide, hx9, rfl⟩)
abbrev mL_benchmarkByHeight : jk_M := ("LevelingNetworkLaw", cL_benchmarkByHeight, 4, (some FieldType.int), tableOf [(0, 9, 12, 43)], false, 21)
theorem jm_L_benchmarkByHeight : jk_mH yL_benchmarkByHeight mL_benchmarkByHeight [(0, 9, 12, 43)] 3 := ⟨⟨jw_1143, jw_0, ⟨by decide +kernel, by decide +kernel⟩, by decide +kernel, by decide +kernel, rfl, by decide, fun h => absurd h (by decide), rfl⟩, jw_1142⟩
theorem w_benchmarkByHeight {G : jk_G} {n : Nat} {t : jk_T} {σ : jk_I} {ρ : jk_P} {x o mc ms : Nat} {p0 : Int} {Q1 : jk_Q} {X1 : jk_X} (hzn : zn_ok G) (hx : t x = some (.inr 12)) (K : jk_K G yX12_benchmarkByHeight mX12_benchmarkByHeight mc ms [.ref x, jI p0] n t σ ρ Q1 X1) (hQ : ∀ v' n' t' σ' ρ', Q1 v' n' t' σ' ρ' → (∃ v, v' = some (jI v)) ∧ t' o = some (.inl (.long, 1))) (hX : ∀ E n' t' σ' ρ', X1 E n' t' σ' ρ' → E = "java/util/NoSuchElementException") : jk_KH G yL_benchmarkByHeight mL_benchmarkByHeight [(0, 9, 12, 43)] mc ms [.ref x, jI p0, .ref o] n t σ ρ (wQ o ["java/util/NoSuchElementException"] Q1 X1) jk_no := by
  refine jk_entryH (ls := [some (.ref x), some (jI p0), some (.ref o), none]) jm_L_benchmarkByHeight rfl rfl rfl ?_
  refine jk_aload_n (q := 1) dL_benchmarkByHeight_0 rfl rfl ?_
  refine jk_iconst (q := 2) dL_benchmarkByHeight_1 rfl ?_
  refine jk_aload_n (q := 3) dL_benchmarkByHeight_2 rfl rfl ?_
  refine jk_iload_n (q := 4) dL_benchmarkByHeight_3 rfl rfl ?_
  refine jk_callVC (q := 7) (k := 12) (As := [jI p0]) K jm_X12_benchmarkByHeight jw_1144 rfl hx rfl rfl rfl (Nat.le_refl _) (Nat.le_refl _) dL_benchmarkByHeight_4 rfl (fun v' n' t' σ' ρ' hq => ?_) (fun E n' t' σ' ρ' hx9 => ?_)
  · obtain ⟨⟨v, rfl⟩, hto⟩ := hQ _ _ _ _ _ hq
    simp only [Option.toList_some, List.cons_append, List.nil_append]
    refine jk_i2lw (q := 8) dL_benchmarkByHeight_7 rfl ?_
    refine jk_lastR (q := 9) (by first | exact hto | exact hx) (by rfl) (by first | decide | omega) dL_benchmarkByHeight_8 rfl ?_
    refine jk_goto (q := 15) dL_benchmarkByHeight_9 rfl ?_
    refine jk_iconst (q := 16) dL_benchmarkByHeight_15 rfl ?_
    exact jk_iret rfl dL_benchmarkByHeight_16 (by exact Or.inl ⟨v, σ', hq, rfl, rfl⟩)
  · obtain rfl := hX _ _ _ _ _ hx9
    · refine ⟨[], ⟨0, 9, 12, 43⟩, [], "java/util/NoSuchElementException", rfl, (fun z hz => absurd hz List.not_mem_nil), rfl, by decide, jw_1049, jw_697, fun a => ?_⟩
      refine jk_astore3 (q := 13) dL_benchmarkByHeight_12 rfl rfl rfl ?_
      refine jk_iconst (q := 14) dL_benchmarkByHeight_13 rfl ?_
      exact jk_iret rfl dL_benchmarkByHeight_14 (by exact Or.inr ⟨0, by decide, hx9, rfl⟩)
abbrev mL_firstOf : jk_M := ("LevelingNetworkLaw", cL_firstOf, 4, (some FieldType.int), tableOf [(0, 9, 12, 19)], false, 11)
theorem jm_L_firstOf : jk_mH yL_firstOf mL_firstOf [(0, 9, 12, 19)] 3 := ⟨⟨jw_1161, jw_0, ⟨by decide +kernel, by decide +kernel⟩, by decide +kernel, by decide +kernel, rfl, by decide, fun h => absurd h (by decide), rfl⟩, jw_1160⟩
theorem w_firstOf {G : jk_G} {n : Nat} {t : jk_T} {σ : jk_I} {ρ : jk_P} {x o mc ms : Nat} {p0 : Int} {Q1 : jk_Q} {X1 : jk_X} (hzn : zn_ok G) (hx : t x = some (.inr 12)) (K : jk_K G yX12_firstOf mX12_firstOf mc ms [.ref x, jI p0] n t σ ρ Q1 X1) (hQ : ∀ v' n' t' σ' ρ', Q1 v' n' t' σ' ρ' → (∃ v, v' = some (jI v)) ∧ t' o = some (.inl (.long, 1))) (hX : ∀ E n' t' σ' ρ', X1 E n' t' σ' ρ' → E = "java/lang/IndexOutOfBoundsException") : jk_KH G yL_firstOf mL_firstOf [(0, 9, 12, 19)] mc ms [.ref x, jI p0, .ref o] n t σ ρ (wQ o ["java/lang/IndexOutOfBoundsException"] Q1 X1) jk_no := by
  refine jk_entryH (ls := [some (.ref x), some (jI p0), some (.ref o), none]) jm_L_firstOf rfl rfl rfl ?_
  refine jk_aload_n (q := 1) dL_firstOf_0 rfl rfl ?_
  refine jk_iconst (q := 2) dL_firstOf_1 rfl ?_
  refine jk_aload_n (q := 3) dL_firstOf_2 rfl rfl ?_
  refine jk_iload_n (q := 4) dL_firstOf_3 rfl rfl ?_
  refine jk_callVC (q := 7) (k := 12) (As := [jI p0]) K jm_X12_firstOf jw_1162 rfl hx rfl rfl rfl (Nat.le_refl _) (Nat.le_refl _) dL_firstOf_4 rfl (fun v' n' t' σ' ρ' hq => ?_) (fun E n' t' σ' ρ' hx9 => ?_)
  · obtain ⟨⟨v, rfl⟩, hto⟩ := hQ _ _ _ _ _ hq
    simp only [Option.toList_some, List.cons_append, List.nil_append]
    refine jk_i2lw (q := 8) dL_firstOf_7 rfl ?_
    refine jk_lastR (q := 9) (by first | exact hto | exact hx) (by rfl) (by first | decide | omega) dL_firstOf_8 rfl ?_
    refine jk_goto (q := 15) dL_firstOf_9 rfl ?_
    refine jk_iconst (q := 16) dL_firstOf_15 rfl ?_
    exact jk_iret rfl dL_firstOf_16 (by exact Or.inl ⟨v, σ', hq, rfl, rfl⟩)
  · obtain rfl := hX _ _ _ _ _ hx9
    · refine ⟨[], ⟨0, 9, 12, 19⟩, [], "java/lang/IndexOutOfBoundsException", rfl, (fun z hz => absurd hz List.not_mem_nil), rfl, by decide, jw_973, jw_593, fun a => ?_⟩
      refine jk_astore3 (q := 13) dL_firstOf_12 rfl rfl rfl ?_
      refine jk_iconst (q := 14) dL_firstOf_13 rfl ?_
      exact jk_iret rfl dL_firstOf_14 (by exact Or.inr ⟨0, by decide, hx9, rfl⟩)
abbrev mL_secondOf : jk_M := ("LevelingNetworkLaw", cL_secondOf, 4, (some FieldType.int), tableOf [(0, 9, 12, 19)], false, 11)
theorem jm_L_secondOf : jk_mH yL_secondOf mL_secondOf [(0, 9, 12, 19)] 3 := ⟨⟨jw_1174, jw_0, ⟨by decide +kernel, by decide +kernel⟩, by decide +kernel, by decide +kernel, rfl, by decide, fun h => absurd h (by decide), rfl⟩, jw_1173⟩
theorem w_secondOf {G : jk_G} {n : Nat} {t : jk_T} {σ : jk_I} {ρ : jk_P} {x o mc ms : Nat} {p0 : Int} {Q1 : jk_Q} {X1 : jk_X} (hzn : zn_ok G) (hx : t x = some (.inr 12)) (K : jk_K G yX12_secondOf mX12_secondOf mc ms [.ref x, jI p0] n t σ ρ Q1 X1) (hQ : ∀ v' n' t' σ' ρ', Q1 v' n' t' σ' ρ' → (∃ v, v' = some (jI v)) ∧ t' o = some (.inl (.long, 1))) (hX : ∀ E n' t' σ' ρ', X1 E n' t' σ' ρ' → E = "java/lang/IndexOutOfBoundsException") : jk_KH G yL_secondOf mL_secondOf [(0, 9, 12, 19)] mc ms [.ref x, jI p0, .ref o] n t σ ρ (wQ o ["java/lang/IndexOutOfBoundsException"] Q1 X1) jk_no := by
  refine jk_entryH (ls := [some (.ref x), some (jI p0), some (.ref o), none]) jm_L_secondOf rfl rfl rfl ?_
  refine jk_aload_n (q := 1) dL_secondOf_0 rfl rfl ?_
  refine jk_iconst (q := 2) dL_secondOf_1 rfl ?_
  refine jk_aload_n (q := 3) dL_secondOf_2 rfl rfl ?_
  refine jk_iload_n (q := 4) dL_secondOf_3 rfl rfl ?_
  refine jk_callVC (q := 7) (k := 12) (As := [jI p0]) K jm_X12_secondOf jw_1175 rfl hx rfl rfl rfl (Nat.le_refl _) (Nat.le_refl _) dL_secondOf_4 rfl (fun v' n' t' σ' ρ' hq => ?_) (fun E n' t' σ' ρ' hx9 => ?_)
  · obtain ⟨⟨v, rfl⟩, hto⟩ := hQ _ _ _ _ _ hq
    simp only [Option.toList_some, List.cons_append, List.nil_append]
    refine jk_i2lw (q := 8) dL_secondOf_7 rfl ?_
    refine jk_lastR (q := 9) (by first | exact hto | exact hx) (by rfl) (by first | decide | omega) dL_secondOf_8 rfl ?_
    refine jk_goto (q := 15) dL_secondOf_9 rfl ?_
    refine jk_iconst (q := 16) dL_secondOf_15 rfl ?_
    exact jk_iret rfl dL_secondOf_16 (by exact Or.inl ⟨v, σ', hq, rfl, rfl⟩)
  · obtain rfl := hX _ _ _ _ _ hx9
    · refine ⟨[], ⟨0, 9, 12, 19⟩, [], "java/lang/IndexOutOfBoundsException", rfl, (fun z hz => absurd hz List.not_mem_nil), rfl, by decide, jw_973, jw_593, fun a => ?_⟩
      refine jk_astore3 (q := 13) dL_secondOf_12 rfl rfl rfl ?_
      refine jk_iconst (q := 14) dL_secondOf_13 rfl ?_
      exact jk_iret rfl dL_secondOf_14 (by exact Or.inr ⟨0, by decide, hx9, rfl⟩)
abbrev mL_lengthOf : jk_M := ("LevelingNetworkLaw", cL_lengthOf, 4, (some FieldType.int), tableOf [(0, 9, 12, 19)], false, 11)
theorem jm_L_lengthOf : jk_mH yL_lengthOf mL_lengthOf [(0, 9, 12, 19)] 3 := ⟨⟨jw_1181, jw_0, ⟨by decide +kernel, by decide +kernel⟩, by decide +kernel, by decide +kernel, rfl, by decide, fun h => absurd h (by decide), rfl⟩, jw_1180⟩
theorem w_lengthOf {G : jk_G} {n : Nat} {t : jk_T} {σ : jk_I} {ρ : jk_P} {x o mc ms : Nat} {p0 : Int} {Q1 : jk_Q} {X1 : jk_X} (hzn : zn_ok G) (hx : t x = some (.inr 12)) (K : jk_K G yX12_lengthOf mX12_lengthOf mc ms [.ref x, jI p0] n t σ ρ Q1 X1) (hQ : ∀ v' n' t' σ' ρ', Q1 v' n' t' σ' ρ' → (∃ v, v' = some (jI v)) ∧ t' o = some (.inl (.long, 1))) (hX : ∀ E n' t' σ' ρ', X1 E n' t' σ' ρ' → E = "java/lang/IndexOutOfBoundsException") : jk_KH G yL_lengthOf mL_lengthOf [(0, 9, 12, 19)] mc ms [.ref x, jI p0, .ref o] n t σ ρ (wQ o ["java/lang/IndexOutOfBoundsException"] Q1 X1) jk_no := by
  refine jk_entryH (ls := [some (.ref x), some (jI p0), some (.ref o), none]) jm_L_lengthOf rfl rfl rfl ?_
  refine jk_aload_n (q := 1) dL_lengthOf_0 rfl rfl ?_
  refine jk_iconst (q := 2) dL_lengthOf_1 rfl ?_
  refine jk_aload_n (q := 3) dL_lengthOf_2 rfl rfl ?_
  refine jk_iload_n (q := 4) dL_lengthOf_3 rfl rfl ?_
  refine jk_callVC (q := 7) (k := 12) (As := [jI p0]) K jm_X12_lengthOf jw_1182 rfl hx rfl rfl rfl (Nat.le_refl _) (Nat.le_refl _) dL_lengthOf_4 rfl (fun v' n' t' σ' ρ' hq => ?_) (fun E n' t' σ' ρ' hx9 => ?_)
  · obtain ⟨⟨v, rfl⟩, hto⟩ := hQ _ _ _ _ _ hq
    simp only [Option.toList_some, List.cons_append, List.nil_append]
    refine jk_i2lw (q := 8) dL_lengthOf_7 rfl ?_
    refine jk_lastR (q := 9) (by first | exact hto | exact hx) (by rfl) (by first | decide | omega) dL_lengthOf_8 rfl ?_
    refine jk_goto (q := 15) dL_lengthOf_9 rfl ?_
    refine jk_iconst (q := 16) dL_lengthOf_15 rfl ?_
    exact jk_iret rfl dL_lengthOf_16 (by exact Or.inl ⟨v, σ', hq, rfl, rfl⟩)
  · obtain rfl := hX _ _ _ _ _ hx9
    · refine ⟨[], ⟨0, 9, 12, 19⟩, [], "java/lang/IndexOutOfBoundsException", rfl, (fun z hz => absurd hz List.not_mem_nil), rfl, by decide, jw_973, jw_593, fun a => ?_⟩
      refine jk_astore3 (q := 13) dL_lengthOf_12 rfl rfl rfl ?_
      refine jk_iconst (q := 14) dL_lengthOf_13 rfl ?_
      exact jk_iret rfl dL_lengthOf_14 (by exact Or.inr ⟨0, by decide, hx9, rfl⟩)
abbrev mL_levelledDifference : jk_M := ("LevelingNetworkLaw", cL_levelledDifference, 4, (some FieldType.int), tableOf [(0, 9, 12, 19)], false, 11)
theorem jm_L_levelledDifference : jk_mH yL_levelledDifference mL_levelledDifference [(0, 9, 12, 19)] 3 := ⟨⟨jw_1188, jw_0, ⟨by decide +kernel, by decide +kernel⟩, by decide +kernel, by decide +kernel, rfl, by decide, fun h => absurd h (by decide), rfl⟩, jw_1187⟩
theorem w_levelledDifference {G : jk_G} {n : Nat} {t : jk_T} {σ : jk_I} {ρ : jk_P} {x o mc ms : Nat} {p0 : Int} {Q1 : jk_Q} {X1 : jk_X} (hzn : zn_ok G) (hx : t x = some (.inr 12)) (K : jk_K G yX12_levelledDifference mX12_levelledDifference mc ms [.ref x, jI p0] n t σ ρ Q1 X1) (hQ : ∀ v' n' t' σ' ρ', Q1 v' n' t' σ' ρ' → (∃ v, v' = some (jI v)) ∧ t' o = some (.inl (.long, 1))) (hX : ∀ E n' t' σ' ρ', X1 E n' t' σ' ρ' → E = "java/lang/IndexOutOfBoundsException") : jk_KH G yL_levelledDifference mL_levelledDifference [(0, 9, 12, 19)] mc ms [.ref x, jI p0, .ref o] n t σ ρ (wQ o ["java/lang/IndexOutOfBoundsException"] Q1 X1) jk_no := by
  refine jk_entryH (ls := [some (.ref x), some (jI p0), some (.ref o), none]) jm_L_levelledDifference rfl rfl rfl ?_
  refine jk_aload_n (q := 1) dL_levelledDifference_0 rfl rfl ?_
  refine jk_iconst (q := 2) dL_levelledDifference_1 rfl ?_
  refine jk_aload_n (q := 3) dL_levelledDifference_2 rfl rfl ?_
  refine jk_iload_n (q := 4) dL_levelledDifference_3 rfl rfl ?_
  refine jk_callVC (q := 7) (k := 12) (As := [jI p0]) K jm_X12_levelledDifference jw_1189 rfl hx rfl rfl rfl (Nat.le_refl _) (Nat.le_refl _) dL_levelledDifference_4 rfl (fun v' n' t' σ' ρ' hq => ?_) (fun E n' t' σ' ρ' hx9 => ?_)
  · obtain ⟨⟨v, rfl⟩, hto⟩ := hQ _ _ _ _ _ hq
    simp only [Option.toList_some, List.cons_append, List.nil_append]
    refine jk_i2lw (q := 8) dL_levelledDifference_7 rfl ?_
    refine jk_lastR (q := 9) (by first | exact hto | exact hx) (by rfl) (by first | decide | omega) dL_levelledDifference_8 rfl ?_
    refine jk_goto (q := 15) dL_levelledDifference_9 rfl ?_
    refine jk_iconst (q := 16) dL_levelledDifference_15 rfl ?_
    exact jk_iret rfl dL_levelledDifference_16 (by exact Or.inl ⟨v, σ', hq, rfl, rfl⟩)
  · obtain rfl := hX _ _ _ _ _ hx9
    · refine ⟨[], ⟨0, 9, 12, 19⟩, [], "java/lang/IndexOutOfBoundsException", rfl, (fun z hz => absurd hz List.not_mem_nil), rfl, by decide, jw_973, jw_593, fun a => ?_⟩
      refine jk_astore3 (q := 13) dL_levelledDifference_12 rfl rfl rfl ?_
      refine jk_iconst (q := 14) dL_levelledDifference_13 rfl ?_
      exact jk_iret rfl dL_levelledDifference_14 (by exact Or.inr ⟨0, by decide, hx9, rfl⟩)
abbrev mL_correction : jk_M := ("LevelingNetworkLaw", cL_correction, 4, (some FieldType.int), tableOf [(0, 9, 12, 19)], false, 11)
theorem jm_L_correction : jk_mH yL_correction mL_correction [(0, 9, 12, 19)] 3 := ⟨⟨jw_1196, jw_0, ⟨by decide +kernel, by decide +kernel⟩, by decide +kernel, by decide +kernel, rfl, by decide, fun h => absurd h (by decide), rfl⟩, jw_1195⟩
theorem w_correction {G : jk_G} {n : Nat} {t : jk_T} {σ : jk_I} {ρ : jk_P} {x o mc ms : Nat} {p0 : Int} {Q1 : jk_Q} {X1 : jk_X} (hzn : zn_ok G) (hx : t x = some (.inr 12)) (K : jk_K G yX12_correction mX12_correction mc ms [.ref x, jI p0] n t σ ρ Q1 X1) (hQ : ∀ v' n' t' σ' ρ', Q1 v' n' t' σ' ρ' → (∃ v, v' = some (jI v)) ∧ t' o = some (.inl (.long, 1))) (hX : ∀ E n' t' σ' ρ', X1 E n' t' σ' ρ' → E = "java/lang/IndexOutOfBoundsException") : jk_KH G yL_correction mL_correction [(0, 9, 12, 19)] mc ms [.ref x, jI p0, .ref o] n t σ ρ (wQ o ["java/lang/IndexOutOfBoundsException"] Q1 X1) jk_no := by
  refine jk_entryH (ls := [some (.ref x), some (jI p0), some (.ref o), none]) jm_L_correction rfl rfl rfl ?_
  refine jk_aload_n (q := 1) dL_correction_0 rfl rfl ?_
  refine jk_iconst (q := 2) dL_correction_1 rfl ?_
  refine jk_aload_n (q := 3) dL_correction_2 rfl rfl ?_
  refine jk_iload_n (q := 4) dL_correction_3 rfl rfl ?_
  refine jk_callVC (q := 7) (k := 12) (As := [jI p0]) K jm_X12_correction jw_1197 rfl hx rfl rfl rfl (Nat.le_refl _) (Nat.le_refl _) dL_correction_4 rfl (fun v' n' t' σ' ρ' hq => ?_) (fun E n' t' σ' ρ' hx9 => ?_)
  · obtain ⟨⟨v, rfl⟩, hto⟩ := hQ _ _ _ _ _ hq
    simp only [Option.toList_some, List.cons_append, List.nil_append]
    refine jk_i2lw (q := 8) dL_correction_7 rfl ?_
    refine jk_lastR (q := 9) (by first | exact hto | exact hx) (by rfl) (by first | decide | omega) dL_correction_8 rfl ?_
    refine jk_goto (q := 15) dL_correction_9 rfl ?_
    refine jk_iconst (q := 16) dL_correction_15 rfl ?_
    exact jk_iret rfl dL_correction_16 (by exact Or.inl ⟨v, σ', hq, rfl, rfl⟩)
  · obtain rfl := hX _ _ _ _ _ hx9
    · refine ⟨[], ⟨0, 9, 12, 19⟩, [], "java/lang/IndexOutOfBoundsException", rfl, (fun z hz => absurd hz List.not_mem_nil), rfl, by decide, jw_973, jw_593, fun a => ?_⟩
      refine jk_astore3 (q := 13) dL_correction_12 rfl rfl rfl ?_
      refine jk_iconst (q := 14) dL_correction_13 rfl ?_
      exact jk_iret rfl dL_correction_14 (by exact Or.inr ⟨0, by decide, hx9, rfl⟩)
abbrev mL_discrepancy : jk_M := ("LevelingNetworkLaw", cL_discrepancy, 4, (some FieldType.int), tableOf [(0, 9, 12, 19), (0, 9, 15, 43)], false, 11)
theorem jm_L_discrepancy : jk_mH yL_discrepancy mL_discrepancy [(0, 9, 12, 19), (0, 9, 15, 43)] 3 := ⟨⟨jw_1203, jw_0, ⟨by decide +kernel, by decide +kernel⟩, by decide +kernel, by decide +kernel, rfl, by decide, fun h => absurd h (by decide), rfl⟩, jw_1202⟩
theorem w_discrepancy {G : jk_G} {n : Nat} {t : jk_T} {σ : jk_I} {ρ : jk_P} {x o mc ms : Nat} {p0 : Int} {Q1 : jk_Q} {X1 : jk_X} (hzn : zn_ok G) (hx : t x = some (.inr 12)) (K : jk_K G yX12_discrepancy mX12_discrepancy mc ms [.ref x, jI p0] n t σ ρ Q1 X1) (hQ : ∀ v' n' t' σ' ρ', Q1 v' n' t' σ' ρ' → (∃ v, v' = some (jI v)) ∧ t' o = some (.inl (.long, 1))) (hX : ∀ E n' t' σ' ρ', X1 E n' t' σ' ρ' → E = "java/lang/IndexOutOfBoundsException" ∨ E = "java/util/NoSuchElementException") : jk_KH G yL_discrepancy mL_discrepancy [(0, 9, 12, 19), (0, 9, 15, 43)] mc ms [.ref x, jI p0, .ref o] n t σ ρ (wQ o ["java/lang/IndexOutOfBoundsException", "java/util/NoSuchElementException"] Q1 X1) jk_no := by
  refine jk_entryH (ls := [some (.ref x), some (jI p0), some (.ref o), none]) jm_L_discrepancy rfl rfl rfl ?_
  refine jk_aload_n (q := 1) dL_discrepancy_0 rfl rfl ?_
  refine jk_iconst (q := 2) dL_discrepancy_1 rfl ?_
  refine jk_aload_n (q := 3) dL_discrepancy_2 rfl rfl ?_
  refine jk_iload_n (q := 4) dL_discrepancy_3 rfl rfl ?_
  refine jk_callVC (q := 7) (k := 12) (As := [jI p0]) K jm_X12_discrepancy jw_1204 rfl hx rfl rfl rfl (Nat.le_refl _) (Nat.le_refl _) dL_discrepancy_4 rfl (fun v' n' t' σ' ρ' hq => ?_) (fun E n' t' σ' ρ' hx9 => ?_)
  · obtain ⟨⟨v, rfl⟩, hto⟩ := hQ _ _ _ _ _ hq
    simp only [Option.toList_some, List.cons_append, List.nil_append]
    refine jk_i2lw (q := 8) dL_discrepancy_7 rfl ?_
    refine jk_lastR (q := 9) (by first | exact hto | exact hx) (by rfl) (by first | decide | omega) dL_discrepancy_8 rfl ?_
    refine jk_goto (q := 18) dL_discrepancy_9 rfl ?_
    refine jk_iconst (q := 19) dL_discrepancy_18 rfl ?_
    exact jk_iret rfl dL_discrepancy_19 (by exact Or.inl ⟨v, σ', hq, rfl, rfl⟩)
  · rcases hX _ _ _ _ _ hx9 with rfl | rfl
    · refine ⟨[], ⟨0, 9, 12, 19⟩, [⟨0, 9, 15, 43⟩], "java/lang/IndexOutOfBoundsException", rfl, (fun z hz => absurd hz List.not_mem_nil), rfl, by decide, jw_973, jw_593, fun a => ?_⟩
      refine jk_astore3 (q := 13) dL_discrepancy_12 rfl rfl rfl ?_
      refine jk_iconst (q := 14) dL_discrepancy_13 rfl ?_
      exact jk_iret rfl dL_discrepancy_14 (by exact Or.inr ⟨0, by decide, hx9, rfl⟩)
    · refine ⟨[⟨0, 9, 12, 19⟩], ⟨0, 9, 15, 43⟩, [], "java/util/NoSuchElementException", rfl, (fun z hz => by
        rcases List.mem_cons.mp hz with rfl | hz
        · exact ⟨by decide, "java/lang/IndexOutOfBoundsException", jw_973, fun s h => (hzn s h).2.2.2.2.2.2⟩
        exact absurd hz List.not_mem_nil), rfl, by decide, jw_1049, jw_697, fun a => ?_⟩
      refine jk_astore3 (q := 16) dL_discrepancy_15 rfl rfl rfl ?_
      refine jk_iconst (q := 17) dL_discrepancy_16 rfl ?_
      exact jk_iret rfl dL_discrepancy_17 (by exact Or.inr ⟨1, by decide, hx9, rfl⟩)
abbrev mL_isExcluded : jk_M := ("LevelingNetworkLaw", cL_isExcluded, 4, (some FieldType.int), tableOf [(0, 16, 19, 19)], false, 11)
theorem jm_L_isExcluded : jk_mH yL_isExcluded mL_isExcluded [(0, 16, 19, 19)] 3 := ⟨⟨jw_1212, jw_0, ⟨by decide +kernel, by decide +kernel⟩, by decide +kernel, by decide +kernel, rfl, by decide, fun h => absurd h (by decide), rfl⟩, jw_1211⟩
theorem w_isExcluded {G : jk_G} {n : Nat} {t : jk_T} {σ : jk_I} {ρ : jk_P} {x o mc ms : Nat} {p0 : Int} {Q1 : jk_Q} {X1 : jk_X} (hzn : zn_ok G) (hx : t x = some (.inr 12)) (K : jk_K G yX12_isExcluded mX12_isExcluded mc ms [.ref x, jI p0] n t σ ρ Q1 X1) (hQ : ∀ v' n' t' σ' ρ', Q1 v' n' t' σ' ρ' → (∃ b : Bool, v' = some (jI (jB b))) ∧ t' o = some (.inl (.long, 1))) (hX : ∀ E n' t' σ' ρ', X1 E n' t' σ' ρ' → E = "java/lang/IndexOutOfBoundsException") : jk_KH G yL_isExcluded mL_isExcluded [(0, 16, 19, 19)] mc ms [.ref x, jI p0, .ref o] n t σ ρ (wQ o ["java/lang/IndexOutOfBoundsException"] Q1 X1) jk_no := by
  refine jk_entryH (ls := [some (.ref x), some (jI p0), some (.ref o), none]) jm_L_isExcluded rfl rfl rfl ?_
  refine jk_aload_n (q := 1) dL_isExcluded_0 rfl rfl ?_
  refine jk_iconst (q := 2) dL_isExcluded_1 rfl ?_
  refine jk_aload_n (q := 3) dL_isExcluded_2 rfl rfl ?_
  refine jk_iload_n (q := 4) dL_isExcluded_3 rfl rfl ?_
  refine jk_callVC (q := 7) (k := 12) (As := [jI p0]) K jm_X12_isExcluded jw_1213 rfl hx rfl rfl rfl (Nat.le_refl _) (Nat.le_refl _) dL_isExcluded_4 rfl (fun v' n' t' σ' ρ' hq => ?_) (fun E n' t' σ' ρ' hx9 => ?_)
  · obtain ⟨⟨b, rfl⟩, hto⟩ := hQ _ _ _ _ _ hq
    simp only [Option.toList_some, List.cons_append, List.nil_append]
    refine jk_ifB_eq (q := 14) (q2 := 10) dL_isExcluded_7 rfl rfl (fun h1 => ?_) (fun h1 => ?_)
    · refine jk_lconst (q := 15) (y := 0) dL_isExcluded_14 rfl (by decide) ?_
      refine jk_lastR (q := 16) (by first | exact hto | exact hx) (by rfl) (by first | decide | omega) dL_isExcluded_15 rfl ?_
      refine jk_goto (q := 22) dL_isExcluded_16 rfl ?_
      refine jk_iconst (q := 23) dL_isExcluded_22 rfl ?_
      exact jk_iret rfl dL_isExcluded_23 (by first | exact Or.inl ⟨1, σ', by (have h9 : b = true := by assumption); subst h9; exact hq, rfl, rfl⟩ | exact Or.inl ⟨0, σ', by (have h9 : b = false := by assumption); subst h9; exact hq, rfl, rfl⟩)
    · refine jk_lconst (q := 11) (y := 1) dL_isExcluded_10 rfl (by decide) ?_
      refine jk_goto (q := 15) dL_isExcluded_11 rfl ?_
      refine jk_lastR (q := 16) (by first | exact hto | exact hx) (by rfl) (by first | decide | omega) dL_isExcluded_15 rfl ?_
      refine jk_goto (q := 22) dL_isExcluded_16 rfl ?_
      refine jk_iconst (q := 23) dL_isExcluded_22 rfl ?_
      exact jk_iret rfl dL_isExcluded_23 (by first | exact Or.inl ⟨1, σ', by (have h9 : b = true := by assumption); subst h9; exact hq, rfl, rfl⟩ | exact Or.inl ⟨0, σ', by (have h9 : b = false := by assumption); subst h9; exact hq, rfl, rfl⟩)
  · obtain rfl := hX _ _ _ _ _ hx9
    · refine ⟨[], ⟨0, 16, 19, 19⟩, [], "java/lang/IndexOutOfBoundsException", rfl, (fun z hz => absurd hz List.not_mem_nil), rfl, by decide, jw_973, jw_593, fun a => ?_⟩
      refine jk_astore3 (q := 20) dL_isExcluded_19 rfl rfl rfl ?_
      refine jk_iconst (q := 21) dL_isExcluded_20 rfl ?_
      exact jk_iret rfl dL_isExcluded_21 (by exact Or.inr ⟨0, by decide, hx9, rfl⟩)
abbrev mL_isUsable : jk_M := ("LevelingNetworkLaw", cL_isUsable, 4, (some FieldType.int), tableOf [(0, 16, 19, 19)], false, 11)
theorem jm_L_isUsable : jk_mH yL_isUsable mL_isUsable [(0, 16, 19, 19)] 3 := ⟨⟨jw_1219, jw_0, ⟨by decide +kernel, by decide +kernel⟩, by decide +kernel, by decide +kernel, rfl, by decide, fun h => absurd h (by decide), rfl⟩, jw_1218⟩
theorem w_isUsable {G : jk_G} {n : Nat} {t : jk_T} {σ : jk_I} {ρ : jk_P} {x o mc ms : Nat} {p0 : Int} {Q1 : jk_Q} {X1 : jk_X} (hzn : zn_ok G) (hx : t x = some (.inr 12)) (K : jk_K G yX12_isUsable mX12_isUsable mc ms [.ref x, jI p0] n t σ ρ Q1 X1) (hQ : ∀ v' n' t' σ' ρ', Q1 v' n' t' σ' ρ' → (∃ b : Bool, v' = some (jI (jB b))) ∧ t' o = some (.inl (.long, 1))) (hX : ∀ E n' t' σ' ρ', X1 E n' t' σ' ρ' → E = "java/lang/IndexOutOfBoundsException") : jk_KH G yL_isUsable mL_isUsable [(0, 16, 19, 19)] mc ms [.ref x, jI p0, .ref o] n t σ ρ (wQ o ["java/lang/IndexOutOfBoundsException"] Q1 X1) jk_no := by
  refine jk_entryH (ls := [some (.ref x), some (jI p0), some (.ref o), none]) jm_L_isUsable rfl rfl rfl ?_
  refine jk_aload_n (q := 1) dL_isUsable_0 rfl rfl ?_
  refine jk_iconst (q := 2) dL_isUsable_1 rfl ?_
  refine jk_aload_n (q := 3) dL_isUsable_2 rfl rfl ?_
  refine jk_iload_n (q := 4) dL_isUsable_3 rfl rfl ?_
  refine jk_callVC (q := 7) (k := 12) (As := [jI p0]) K jm_X12_isUsable jw_1220 rfl hx rfl rfl rfl (Nat.le_refl _) (Nat.le_refl _) dL_isUsable_4 rfl (fun v' n' t' σ' ρ' hq => ?_) (fun E n' t' σ' ρ' hx9 => ?_)
  · obtain ⟨⟨b, rfl⟩, hto⟩ := hQ _ _ _ _ _ hq
    simp only [Option.toList_some, List.cons_append, List.nil_append]
    refine jk_ifB_eq (q := 14) (q2 := 10) dL_isUsable_7 rfl rfl (fun h1 => ?_) (fun h1 => ?_)
    · refine jk_lconst (q := 15) (y := 0) dL_isUsable_14 rfl (by decide) ?_
      refine jk_lastR (q := 16) (by first | exact hto | exact hx) (by rfl) (by first | decide | omega) dL_isUsable_15 rfl ?_
      refine jk_goto (q := 22) dL_isUsable_16 rfl ?_
      refine jk_iconst (q := 23) dL_isUsable_22 rfl ?_
      exact jk_iret rfl dL_isUsable_23 (by first | exact Or.inl ⟨1, σ', by (have h9 : b = true := by assumption); subst h9; exact hq, rfl, rfl⟩ | exact Or.inl ⟨0, σ', by (have h9 : b = false := by assumption); subst h9; exact hq, rfl, rfl⟩)
    · refine jk_lconst (q := 11) (y := 1) dL_isUsable_10 rfl (by decide) ?_
      refine jk_goto (q := 15) dL_isUsable_11 rfl ?_
      refine jk_lastR (q := 16) (by first | exact hto | exact hx) (by rfl) (by first | decide | omega) dL_isUsable_15 rfl ?_
      refine jk_goto (q := 22) dL_isUsable_16 rfl ?_
      refine jk_iconst (q := 23) dL_isUsable_22 rfl ?_
      exact jk_iret rfl dL_isUsable_23 (by first | exact Or.inl ⟨1, σ', by (have h9 : b = true := by assumption); subst h9; exact hq, rfl, rfl⟩ | exact Or.inl ⟨0, σ', by (have h9 : b = false := by assumption); subst h9; exact hq, rfl, rfl⟩)
  · obtain rfl := hX _ _ _ _ _ hx9
    · refine ⟨[], ⟨0, 16, 19, 19⟩, [], "java/lang/IndexOutOfBoundsException", rfl, (fun z hz => absurd hz List.not_mem_nil), rfl, by decide, jw_973, jw_593, fun a => ?_⟩
      refine jk_astore3 (q := 20) dL_isUsable_19 rfl rfl rfl ?_
      refine jk_iconst (q := 21) dL_isUsable_20 rfl ?_
      exact jk_iret rfl dL_isUsable_21 (by exact Or.inr ⟨0, by decide, hx9, rfl⟩)
abbrev mL_tolerance : jk_M := ("LevelingNetworkLaw", cL_tolerance, 4, (some FieldType.int), tableOf [(0, 9, 12, 21)], false, 10)
theorem jm_L_tolerance : jk_mH yL_tolerance mL_tolerance [(0, 9, 12, 21)] 3 := ⟨⟨jw_1227, jw_0, ⟨by decide +kernel, by decide +kernel⟩, by decide +kernel, by decide +kernel, rfl, by decide, fun h => absurd h (by decide), rfl⟩, jw_1226⟩
theorem w_tolerance {G : jk_G} {n : Nat} {t : jk_T} {σ : jk_I} {ρ : jk_P} {x o mc ms : Nat} {p0 : Int} {Q1 : jk_Q} {X1 : jk_X} (hzn : zn_ok G) (hx : t x = some (.inr 12)) (K : jk_K G yX12_tolerance mX12_tolerance mc ms [.ref x, jI p0] n t σ ρ Q1 X1) (hQ : ∀ v' n' t' σ' ρ', Q1 v' n' t' σ' ρ' → (∃ v, v' = some (jI v)) ∧ t' o = some (.inl (.long, 1))) (hX : ∀ E n' t' σ' ρ', X1 E n' t' σ' ρ' → E = "java/lang/IllegalArgumentException") : jk_KH G yL_tolerance mL_tolerance [(0, 9, 12, 21)] mc ms [.ref x, jI p0, .ref o] n t σ ρ (wQ o ["java/lang/IllegalArgumentException"] Q1 X1) jk_no := by
  refine jk_entryH (ls := [some (.ref x), some (jI p0), some (.ref o), none]) jm_L_tolerance rfl rfl rfl ?_
  refine jk_aload_n (q := 1) dL_tolerance_0 rfl rfl ?_
  refine jk_iconst (q := 2) dL_tolerance_1 rfl ?_
  refine jk_aload_n (q := 3) dL_tolerance_2 rfl rfl ?_
  refine jk_iload_n (q := 4) dL_tolerance_3 rfl rfl ?_
  refine jk_callVC (q := 7) (k := 12) (As := [jI p0]) K jm_X12_tolerance jw_1228 rfl hx rfl rfl rfl (Nat.le_refl _) (Nat.le_refl _) dL_tolerance_4 rfl (fun v' n' t' σ' ρ' hq => ?_) (fun E n' t' σ' ρ' hx9 => ?_)
  · obtain ⟨⟨v, rfl⟩, hto⟩ := hQ _ _ _ _ _ hq
    simp only [Option.toList_some, List.cons_append, List.nil_append]
    refine jk_i2lw (q := 8) dL_tolerance_7 rfl ?_
    refine jk_lastR (q := 9) (by first | exact hto | exact hx) (by rfl) (by first | decide | omega) dL_tolerance_8 rfl ?_
    refine jk_goto (q := 15) dL_tolerance_9 rfl ?_
    refine jk_iconst (q := 16) dL_tolerance_15 rfl ?_
    exact jk_iret rfl dL_tolerance_16 (by exact Or.inl ⟨v, σ', hq, rfl, rfl⟩)
  · obtain rfl := hX _ _ _ _ _ hx9
    · refine ⟨[], ⟨0, 9, 12, 21⟩, [], "java/lang/IllegalArgumentException", rfl, (fun z hz => absurd hz List.not_mem_nil), rfl, by decide, jw_994, jw_665, fun a => ?_⟩
      refine jk_astore3 (q := 13) dL_tolerance_12 rfl rfl rfl ?_
      refine jk_iconst (q := 14) dL_tolerance_13 rfl ?_
      exact jk_iret rfl dL_tolerance_14 (by exact Or.inr ⟨0, by decide, hx9, rfl⟩)
abbrev mL_lineByDiscrepancy : jk_M := ("LevelingNetworkLaw", cL_lineByDiscrepancy, 4, (some FieldType.int), tableOf [(0, 9, 12, 43)], false, 10)
theorem jm_L_lineByDiscrepancy : jk_mH yL_lineByDiscrepancy mL_lineByDiscrepancy [(0, 9, 12, 43)] 3 := ⟨⟨jw_1237, jw_0, ⟨by decide +kernel, by decide +kernel⟩, by decide +kernel, by decide +kernel, rfl, by decide, fun h => absurd h (by decide), rfl⟩, jw_1236⟩
theorem w_lineByDiscrepancy {G : jk_G} {n : Nat} {t : jk_T} {σ : jk_I} {ρ : jk_P} {x o mc ms : Nat} {p0 : Int} {Q1 : jk_Q} {X1 : jk_X} (hzn : zn_ok G) (hx : t x = some (.inr 12)) (K : jk_K G yX12_lineByDiscrepancy mX12_lineByDiscrepancy mc ms [.ref x, jI p0] n t σ ρ Q1 X1) (hQ : ∀ v' n' t' σ' ρ', Q1 v' n' t' σ' ρ' → (∃ v, v' = some (jI v)) ∧ t' o = some (.inl (.long, 1))) (hX : ∀ E n' t' σ' ρ', X1 E n' t' σ' ρ' → E = "java/util/NoSuchElementException") : jk_KH G yL_lineByDiscrepancy mL_lineByDiscrepancy [(0, 9, 12, 43)] mc ms [.ref x, jI p0, .ref o] n t σ ρ (wQ o ["java/util/NoSuchElementException"] Q1 X1) jk_no := by
  refine jk_entryH (ls := [some (.ref x), some (jI p0), some (.ref o), none]) jm_L_lineByDiscrepancy rfl rfl rfl ?_
  refine jk_aload_n (q := 1) dL_lineByDiscrepancy_0 rfl rfl ?_
  refine jk_iconst (q := 2) dL_lineByDiscrepancy_1 rfl ?_
  refine jk_aload_n (q := 3) dL_lineByDiscrepancy_2 rfl rfl ?_
  refine jk_iload_n (q := 4) dL_lineByDiscrepancy_3 rfl rfl ?_
  refine jk_callVC (q := 7) (k := 12) (As := [jI p0]) K jm_X12_lineByDiscrepancy jw_1238 rfl hx rfl rfl rfl (Nat.le_refl _) (Nat.le_refl _) dL_lineByDiscrepancy_4 rfl (fun v' n' t' σ' ρ' hq => ?_) (fun E n' t' σ' ρ' hx9 => ?_)
  · obtain ⟨⟨v, rfl⟩, hto⟩ := hQ _ _ _ _ _ hq
    simp only [Option.toList_some, List.cons_append, List.nil_append]
    refine jk_i2lw (q := 8) dL_lineByDiscrepancy_7 rfl ?_
    refine jk_lastR (q := 9) (by first | exact hto | exact hx) (by rfl) (by first | decide | omega) dL_lineByDiscrepancy_8 rfl ?_
    refine jk_goto (q := 15) dL_lineByDiscrepancy_9 rfl ?_
    refine jk_iconst (q := 16) dL_lineByDiscrepancy_15 rfl ?_
    exact jk_iret rfl dL_lineByDiscrepancy_16 (by exact Or.inl ⟨v, σ', hq, rfl, rfl⟩)
  · obtain rfl := hX _ _ _ _ _ hx9
    · refine ⟨[], ⟨0, 9, 12, 43⟩, [], "java/util/NoSuchElementException", rfl, (fun z hz => absurd hz List.not_mem_nil), rfl, by decide, jw_1049, jw_697, fun a => ?_⟩
      refine jk_astore3 (q := 13) dL_lineByDiscrepancy_12 rfl rfl rfl ?_
      refine jk_iconst (q := 14) dL_lineByDiscrepancy_13 rfl ?_
      exact jk_iret rfl dL_lineByDiscrepancy_14 (by exact Or.inr ⟨0, by decide, hx9, rfl⟩)
abbrev mL_isInForest : jk_M := ("LevelingNetworkLaw", cL_isInForest, 4, (some FieldType.int), tableOf [(0, 16, 19, 19)], false, 11)
theorem jm_L_isInForest : jk_mH yL_isInForest mL_isInForest [(0, 16, 19, 19)] 3 := ⟨⟨jw_1252, jw_0, ⟨by decide +kernel, by decide +kernel⟩, by decide +kernel, by decide +kernel, rfl, by decide, fun h => absurd h (by decide), rfl⟩, jw_1251⟩
theorem w_isInForest {G : jk_G} {n : Nat} {t : jk_T} {σ : jk_I} {ρ : jk_P} {x o mc ms : Nat} {p0 : Int} {Q1 : jk_Q} {X1 : jk_X} (hzn : zn_ok G) (hx : t x = some (.inr 12)) (K : jk_K G yX12_isInForest mX12_isInForest mc ms [.ref x, jI p0] n t σ ρ Q1 X1) (hQ : ∀ v' n' t' σ' ρ', Q1 v' n' t' σ' ρ' → (∃ b : Bool, v' = some (jI (jB b))) ∧ t' o = some (.inl (.long, 1))) (hX : ∀ E n' t' σ' ρ', X1 E n' t' σ' ρ' → E = "java/lang/IndexOutOfBoundsException") : jk_KH G yL_isInForest mL_isInForest [(0, 16, 19, 19)] mc ms [.ref x, jI p0, .ref o] n t σ ρ (wQ o ["java/lang/IndexOutOfBoundsException"] Q1 X1) jk_no := by
  refine jk_entryH (ls := [some (.ref x), some (jI p0), some (.ref o), none]) jm_L_isInForest rfl rfl rfl ?_
  refine jk_aload_n (q := 1) dL_isInForest_0 rfl rfl ?_
  refine jk_iconst (q := 2) dL_isInForest_1 rfl ?_
  refine jk_aload_n (q := 3) dL_isInForest_2 rfl rfl ?_
  refine jk_iload_n (q := 4) dL_isInForest_3 rfl rfl ?_
  refine jk_callVC (q := 7) (k := 12) (As := [jI p0]) K jm_X12_isInForest jw_1253 rfl hx rfl rfl rfl (Nat.le_refl _) (Nat.le_refl _) dL_isInForest_4 rfl (fun v' n' t' σ' ρ' hq => ?_) (fun E n' t' σ' ρ' hx9 => ?_)
  · obtain ⟨⟨b, rfl⟩, hto⟩ := hQ _ _ _ _ _ hq
    simp only [Option.toList_some, List.cons_append, List.nil_append]
    refine jk_ifB_eq (q := 14) (q2 := 10) dL_isInForest_7 rfl rfl (fun h1 => ?_) (fun h1 => ?_)
    · refine jk_lconst (q := 15) (y := 0) dL_isInForest_14 rfl (by decide) ?_
      refine jk_lastR (q := 16) (by first | exact hto | exact hx) (by rfl) (by first | decide | omega) dL_isInForest_15 rfl ?_
      refine jk_goto (q := 22) dL_isInForest_16 rfl ?_
      refine jk_iconst (q := 23) dL_isInForest_22 rfl ?_
      exact jk_iret rfl dL_isInForest_23 (by first | exact Or.inl ⟨1, σ', by (have h9 : b = true := by assumption); subst h9; exact hq, rfl, rfl⟩ | exact Or.inl ⟨0, σ', by (have h9 : b = false := by assumption); subst h9; exact hq, rfl, rfl⟩)
    · refine jk_lconst (q := 11) (y := 1) dL_isInForest_10 rfl (by decide) ?_
      refine jk_goto (q := 15) dL_isInForest_11 rfl ?_
      refine jk_lastR (q := 16) (by first | exact hto | exact hx) (by rfl) (by first | decide | omega) dL_isInForest_15 rfl ?_
      refine jk_goto (q := 22) dL_isInForest_16 rfl ?_
      refine jk_iconst (q := 23) dL_isInForest_22 rfl ?_
      exact jk_iret rfl dL_isInForest_23 (by first | exact Or.inl ⟨1, σ', by (have h9 : b = true := by assumption); subst h9; exact hq, rfl, rfl⟩ | exact Or.inl ⟨0, σ', by (have h9 : b = false := by assumption); subst h9; exact hq, rfl, rfl⟩)
  · obtain rfl := hX _ _ _ _ _ hx9
    · refine ⟨[], ⟨0, 16, 19, 19⟩, [], "java/lang/IndexOutOfBoundsException", rfl, (fun z hz => absurd hz List.not_mem_nil), rfl, by decide, jw_973, jw_593, fun a => ?_⟩
      refine jk_astore3 (q := 20) dL_isInForest_19 rfl rfl rfl ?_
      refine jk_iconst (q := 21) dL_isInForest_20 rfl ?_
      exact jk_iret rfl dL_isInForest_21 (by exact Or.inr ⟨0, by decide, hx9, rfl⟩)
abbrev mL_loopAt : jk_M := ("LevelingNetworkLaw", cL_loopAt, 4, (some FieldType.int), tableOf [(0, 9, 12, 43)], false, 10)
theorem jm_L_loopAt : jk_mH yL_loopAt mL_loopAt [(0, 9, 12, 43)] 3 := ⟨⟨jw_1259, jw_0, ⟨by decide +kernel, by decide +kernel⟩, by decide +kernel, by decide +kernel, rfl, by decide, fun h => absurd h (by decide), rfl⟩, jw_1258⟩
theorem w_loopAt {G : jk_G} {n : Nat} {t : jk_T} {σ : jk_I} {ρ : jk_P} {x o mc ms : Nat} {p0 : Int} {Q1 : jk_Q} {X1 : jk_X} (hzn : zn_ok G) (hx : t x = some (.inr 12)) (K : jk_K G yX12_loopAt mX12_loopAt mc ms [.ref x, jI p0] n t σ ρ Q1 X1) (hQ : ∀ v' n' t' σ' ρ', Q1 v' n' t' σ' ρ' → (∃ v, v' = some (jI v)) ∧ t' o = some (.inl (.long, 1))) (hX : ∀ E n' t' σ' ρ', X1 E n' t' σ' ρ' → E = "java/util/NoSuchElementException") : jk_KH G yL_loopAt mL_loopAt [(0, 9, 12, 43)] mc ms [.ref x, jI p0, .ref o] n t σ ρ (wQ o ["java/util/NoSuchElementException"] Q1 X1) jk_no := by
  refine jk_entryH (ls := [some (.ref x), some (jI p0), some (.ref o), none]) jm_L_loopAt rfl rfl rfl ?_
  refine jk_aload_n (q := 1) dL_loopAt_0 rfl rfl ?_
  refine jk_iconst (q := 2) dL_loopAt_1 rfl ?_
  refine jk_aload_n (q := 3) dL_loopAt_2 rfl rfl ?_
  refine jk_iload_n (q := 4) dL_loopAt_3 rfl rfl ?_
  refine jk_callVC (q := 7) (k := 12) (As := [jI p0]) K jm_X12_loopAt jw_1260 rfl hx rfl rfl rfl (Nat.le_refl _) (Nat.le_refl _) dL_loopAt_4 rfl (fun v' n' t' σ' ρ' hq => ?_) (fun E n' t' σ' ρ' hx9 => ?_)
  · obtain ⟨⟨v, rfl⟩, hto⟩ := hQ _ _ _ _ _ hq
    simp only [Option.toList_some, List.cons_append, List.nil_append]
    refine jk_i2lw (q := 8) dL_loopAt_7 rfl ?_
    refine jk_lastR (q := 9) (by first | exact hto | exact hx) (by rfl) (by first | decide | omega) dL_loopAt_8 rfl ?_
    refine jk_goto (q := 15) dL_loopAt_9 rfl ?_
    refine jk_iconst (q := 16) dL_loopAt_15 rfl ?_
    exact jk_iret rfl dL_loopAt_16 (by exact Or.inl ⟨v, σ', hq, rfl, rfl⟩)
  · obtain rfl := hX _ _ _ _ _ hx9
    · refine ⟨[], ⟨0, 9, 12, 43⟩, [], "java/util/NoSuchElementException", rfl, (fun z hz => absurd hz List.not_mem_nil), rfl, by decide, jw_1049, jw_697, fun a => ?_⟩
      refine jk_astore3 (q := 13) dL_loopAt_12 rfl rfl rfl ?_
      refine jk_iconst (q := 14) dL_loopAt_13 rfl ?_
      exact jk_iret rfl dL_loopAt_14 (by exact Or.inr ⟨0, by decide, hx9, rfl⟩)
abbrev mL_loopSize : jk_M := ("LevelingNetworkLaw", cL_loopSize, 4, (some FieldType.int), tableOf [(0, 9, 12, 19), (0, 9, 15, 43)], false, 18)
theorem jm_L_loopSize : jk_mH yL_loopSize mL_loopSize [(0, 9, 12, 19), (0, 9, 15, 43)] 3 := ⟨⟨jw_1271, jw_0, ⟨by decide +kernel, by decide +kernel⟩, by decide +kernel, by decide +kernel, rfl, by decide, fun h => absurd h (by decide), rfl⟩, jw_1270⟩
theorem w_loopSize {G : jk_G} {n : Nat} {t : jk_T} {σ : jk_I} {ρ : jk_P} {x o mc ms : Nat} {p0 : Int} {Q1 : jk_Q} {X1 : jk_X} (hzn : zn_ok G) (hx : t x = some (.inr 12)) (K : jk_K G yX12_loopSize mX12_loopSize mc ms [.ref x, jI p0] n t σ ρ Q1 X1) (hQ : ∀ v' n' t' σ' ρ', Q1 v' n' t' σ' ρ' → (∃ v, v' = some (jI v)) ∧ t' o = some (.inl (.long, 1))) (hX : ∀ E n' t' σ' ρ', X1 E n' t' σ' ρ' → E = "java/lang/IndexOutOfBoundsException" ∨ E = "java/util/NoSuchElementException") : jk_KH G yL_loopSize mL_loopSize [(0, 9, 12, 19), (0, 9, 15, 43)] mc ms [.ref x, jI p0, .ref o] n t σ ρ (wQ o ["java/lang/IndexOutOfBoundsException", "java/util/NoSuchElementException"] Q1 X1) jk_no := by
  refine jk_entryH (ls := [some (.ref x), some (jI p0), some (.ref o), none]) jm_L_loopSize rfl rfl rfl ?_
  refine jk_aload_n (q := 1) dL_loopSize_0 rfl rfl ?_
  refine jk_iconst (q := 2) dL_loopSize_1 rfl ?_
  refine jk_aload_n (q := 3) dL_loopSize_2 rfl rfl ?_
  refine jk_iload_n (q := 4) dL_loopSize_3 rfl rfl ?_
  refine jk_callVC (q := 7) (k := 12) (As := [jI p0]) K jm_X12_loopSize jw_1272 rfl hx rfl rfl rfl (Nat.le_refl _) (Nat.le_refl _) dL_loopSize_4 rfl (fun v' n' t' σ' ρ' hq => ?_) (fun E n' t' σ' ρ' hx9 => ?_)
  · obtain ⟨⟨v, rfl⟩, hto⟩ := hQ _ _ _ _ _ hq
    simp only [Option.toList_some, List.cons_append, List.nil_append]
    refine jk_i2lw (q := 8) dL_loopSize_7 rfl ?_
    refine jk_lastR (q := 9) (by first | exact hto | exact hx) (by rfl) (by first | decide | omega) dL_loopSize_8 rfl ?_
    refine jk_goto (q := 18) dL_loopSize_9 rfl ?_
    refine jk_iconst (q := 19) dL_loopSize_18 rfl ?_
    exact jk_iret rfl dL_loopSize_19 (by exact Or.inl ⟨v, σ', hq, rfl, rfl⟩)
  · rcases hX _ _ _ _ _ hx9 with rfl | rfl
    · refine ⟨[], ⟨0, 9, 12, 19⟩, [⟨0, 9, 15, 43⟩], "java/lang/IndexOutOfBoundsException", rfl, (fun z hz => absurd hz List.not_mem_nil), rfl, by decide, jw_973, jw_593, fun a => ?_⟩
      refine jk_astore3 (q := 13) dL_loopSize_12 rfl rfl rfl ?_
      refine jk_iconst (q := 14) dL_loopSize_13 rfl ?_
      exact jk_iret rfl dL_loopSize_14 (by exact Or.inr ⟨0, by decide, hx9, rfl⟩)
    · refine ⟨[⟨0, 9, 12, 19⟩], ⟨0, 9, 15, 43⟩, [], "java/util/NoSuchElementException", rfl, (fun z hz => by
        rcases List.mem_cons.mp hz with rfl | hz
        · exact ⟨by decide, "java/lang/IndexOutOfBoundsException", jw_973, fun s h => (hzn s h).2.2.2.2.2.2⟩
        exact absurd hz List.not_mem_nil), rfl, by decide, jw_1049, jw_697, fun a => ?_⟩
      refine jk_astore3 (q := 16) dL_loopSize_15 rfl rfl rfl ?_
      refine jk_iconst (q := 17) dL_loopSize_16 rfl ?_
      exact jk_iret rfl dL_loopSize_17 (by exact Or.inr ⟨1, by decide, hx9, rfl⟩)
abbrev mL_loopLength : jk_M := ("LevelingNetworkLaw", cL_loopLength, 4, (some FieldType.int), tableOf [(0, 9, 12, 19), (0, 9, 15, 43)], false, 18)
theorem jm_L_loopLength : jk_mH yL_loopLength mL_loopLength [(0, 9, 12, 19), (0, 9, 15, 43)] 3 := ⟨⟨jw_1282, jw_0, ⟨by decide +kernel, by decide +kernel⟩, by decide +kernel, by decide +kernel, rfl, by decide, fun h => absurd h (by decide), rfl⟩, jw_1281⟩
theorem w_loopLength {G : jk_G} {n : Nat} {t : jk_T} {σ : jk_I} {ρ : jk_P} {x o mc ms : Nat} {p0 : Int} {Q1 : jk_Q} {X1 : jk_X} (hzn : zn_ok G) (hx : t x = some (.inr 12)) (K : jk_K G yX12_loopLength mX12_loopLength mc ms [.ref x, jI p0] n t σ ρ Q1 X1) (hQ : ∀ v' n' t' σ' ρ', Q1 v' n' t' σ' ρ' → (∃ v, v' = some (jI v)) ∧ t' o = some (.inl (.long, 1))) (hX : ∀ E n' t' σ' ρ', X1 E n' t' σ' ρ' → E = "java/lang/IndexOutOfBoundsException" ∨ E = "java/util/NoSuchElementException") : jk_KH G yL_loopLength mL_loopLength [(0, 9, 12, 19), (0, 9, 15, 43)] mc ms [.ref x, jI p0, .ref o] n t σ ρ (wQ o ["java/lang/IndexOutOfBoundsException", "java/util/NoSuchElementException"] Q1 X1) jk_no := by
  refine jk_entryH (ls := [some (.ref x), some (jI p0), some (.ref o), none]) jm_L_loopLength rfl rfl rfl ?_
  refine jk_aload_n (q := 1) dL_loopLength_0 rfl rfl ?_
  refine jk_iconst (q := 2) dL_loopLength_1 rfl ?_
  refine jk_aload_n (q := 3) dL_loopLength_2 rfl rfl ?_
  refine jk_iload_n (q := 4) dL_loopLength_3 rfl rfl ?_
  refine jk_callVC (q := 7) (k := 12) (As := [jI p0]) K jm_X12_loopLength jw_1283 rfl hx rfl rfl rfl (Nat.le_refl _) (Nat.le_refl _) dL_loopLength_4 rfl (fun v' n' t' σ' ρ' hq => ?_) (fun E n' t' σ' ρ' hx9 => ?_)
  · obtain ⟨⟨v, rfl⟩, hto⟩ := hQ _ _ _ _ _ hq
    simp only [Option.toList_some, List.cons_append, List.nil_append]
    refine jk_i2lw (q := 8) dL_loopLength_7 rfl ?_
    refine jk_lastR (q := 9) (by first | exact hto | exact hx) (by rfl) (by first | decide | omega) dL_loopLength_8 rfl ?_
    refine jk_goto (q := 18) dL_loopLength_9 rfl ?_
    refine jk_iconst (q := 19) dL_loopLength_18 rfl ?_
    exact jk_iret rfl dL_loopLength_19 (by exact Or.inl ⟨v, σ', hq, rfl, rfl⟩)
  · rcases hX _ _ _ _ _ hx9 with rfl | rfl
    · refine ⟨[], ⟨0, 9, 12, 19⟩, [⟨0, 9, 15, 43⟩], "java/lang/IndexOutOfBoundsException", rfl, (fun z hz => absurd hz List.not_mem_nil), rfl, by decide, jw_973, jw_593, fun a => ?_⟩
      refine jk_astore3 (q := 13) dL_loopLength_12 rfl rfl rfl ?_
      refine jk_iconst (q := 14) dL_loopLength_13 rfl ?_
      exact jk_iret rfl dL_loopLength_14 (by exact Or.inr ⟨0, by decide, hx9, rfl⟩)
    · refine ⟨[⟨0, 9, 12, 19⟩], ⟨0, 9, 15, 43⟩, [], "java/util/NoSuchElementException", rfl, (fun z hz => by
        rcases List.mem_cons.mp hz with rfl | hz
        · exact ⟨by decide, "java/lang/IndexOutOfBoundsException", jw_973, fun s h => (hzn s h).2.2.2.2.2.2⟩
        exact absurd hz List.not_mem_nil), rfl, by decide, jw_1049, jw_697, fun a => ?_⟩
      refine jk_astore3 (q := 16) dL_loopLength_15 rfl rfl rfl ?_
      refine jk_iconst (q := 17) dL_loopLength_16 rfl ?_
      exact jk_iret rfl dL_loopLength_17 (by exact Or.inr ⟨1, by decide, hx9, rfl⟩)
abbrev mL_misclosure : jk_M := ("LevelingNetworkLaw", cL_misclosure, 4, (some FieldType.int), tableOf [(0, 9, 12, 19), (0, 9, 15, 43)], false, 18)
theorem jm_L_misclosure : jk_mH yL_misclosure mL_misclosure [(0, 9, 12, 19), (0, 9, 15, 43)] 3 := ⟨⟨jw_1290, jw_0, ⟨by decide +kernel, by decide +kernel⟩, by decide +kernel, by decide +kernel, rfl, by decide, fun h => absurd h (by decide), rfl⟩, jw_1289⟩
theorem w_misclosure {G : jk_G} {n : Nat} {t : jk_T} {σ : jk_I} {ρ : jk_P} {x o mc ms : Nat} {p0 : Int} {Q1 : jk_Q} {X1 : jk_X} (hzn : zn_ok G) (hx : t x = some (.inr 12)) (K : jk_K G yX12_misclosure mX12_misclosure mc ms [.ref x, jI p0] n t σ ρ Q1 X1) (hQ : ∀ v' n' t' σ' ρ', Q1 v' n' t' σ' ρ' → (∃ v, v' = some (jI v)) ∧ t' o = some (.inl (.long, 1))) (hX : ∀ E n' t' σ' ρ', X1 E n' t' σ' ρ' → E = "java/lang/IndexOutOfBoundsException" ∨ E = "java/util/NoSuchElementException") : jk_KH G yL_misclosure mL_misclosure [(0, 9, 12, 19), (0, 9, 15, 43)] mc ms [.ref x, jI p0, .ref o] n t σ ρ (wQ o ["java/lang/IndexOutOfBoundsException", "java/util/NoSuchElementException"] Q1 X1) jk_no := by
  refine jk_entryH (ls := [some (.ref x), some (jI p0), some (.ref o), none]) jm_L_misclosure rfl rfl rfl ?_
  refine jk_aload_n (q := 1) dL_misclosure_0 rfl rfl ?_
  refine jk_iconst (q := 2) dL_misclosure_1 rfl ?_
  refine jk_aload_n (q := 3) dL_misclosure_2 rfl rfl ?_
  refine jk_iload_n (q := 4) dL_misclosure_3 rfl rfl ?_
  refine jk_callVC (q := 7) (k := 12) (As := [jI p0]) K jm_X12_misclosure jw_1291 rfl hx rfl rfl rfl (Nat.le_refl _) (Nat.le_refl _) dL_misclosure_4 rfl (fun v' n' t' σ' ρ' hq => ?_) (fun E n' t' σ' ρ' hx9 => ?_)
  · obtain ⟨⟨v, rfl⟩, hto⟩ := hQ _ _ _ _ _ hq
    simp only [Option.toList_some, List.cons_append, List.nil_append]
    refine jk_i2lw (q := 8) dL_misclosure_7 rfl ?_
    refine jk_lastR (q := 9) (by first | exact hto | exact hx) (by rfl) (by first | decide | omega) dL_misclosure_8 rfl ?_
    refine jk_goto (q := 18) dL_misclosure_9 rfl ?_
    refine jk_iconst (q := 19) dL_misclosure_18 rfl ?_
    exact jk_iret rfl dL_misclosure_19 (by exact Or.inl ⟨v, σ', hq, rfl, rfl⟩)
  · rcases hX _ _ _ _ _ hx9 with rfl | rfl
    · refine ⟨[], ⟨0, 9, 12, 19⟩, [⟨0, 9, 15, 43⟩], "java/lang/IndexOutOfBoundsException", rfl, (fun z hz => absurd hz List.not_mem_nil), rfl, by decide, jw_973, jw_593, fun a => ?_⟩
      refine jk_astore3 (q := 13) dL_misclosure_12 rfl rfl rfl ?_
      refine jk_iconst (q := 14) dL_misclosure_13 rfl ?_
      exact jk_iret rfl dL_misclosure_14 (by exact Or.inr ⟨0, by decide, hx9, rfl⟩)
    · refine ⟨[⟨0, 9, 12, 19⟩], ⟨0, 9, 15, 43⟩, [], "java/util/NoSuchElementException", rfl, (fun z hz => by
        rcases List.mem_cons.mp hz with rfl | hz
        · exact ⟨by decide, "java/lang/IndexOutOfBoundsException", jw_973, fun s h => (hzn s h).2.2.2.2.2.2⟩
        exact absurd hz List.not_mem_nil), rfl, by decide, jw_1049, jw_697, fun a => ?_⟩
      refine jk_astore3 (q := 16) dL_misclosure_15 rfl rfl rfl ?_
      refine jk_iconst (q := 17) dL_misclosure_16 rfl ?_
      exact jk_iret rfl dL_misclosure_17 (by exact Or.inr ⟨1, by decide, hx9, rfl⟩)
abbrev mL_misclosureByLevels : jk_M := ("LevelingNetworkLaw", cL_misclosureByLevels, 4, (some FieldType.int), tableOf [(0, 9, 12, 19), (0, 9, 15, 43)], false, 18)
theorem jm_L_misclosureByLevels : jk_mH yL_misclosureByLevels mL_misclosureByLevels [(0, 9, 12, 19), (0, 9, 15, 43)] 3 := ⟨⟨jw_1297, jw_0, ⟨by decide +kernel, by decide +kernel⟩, by decide +kernel, by decide +kernel, rfl, by decide, fun h => absurd h (by decide), rfl⟩, jw_1296⟩
theorem w_misclosureByLevels {G : jk_G} {n : Nat} {t : jk_T} {σ : jk_I} {ρ : jk_P} {x o mc ms : Nat} {p0 : Int} {Q1 : jk_Q} {X1 : jk_X} (hzn : zn_ok G) (hx : t x = some (.inr 12)) (K : jk_K G yX12_misclosureByLevels mX12_misclosureByLevels mc ms [.ref x, jI p0] n t σ ρ Q1 X1) (hQ : ∀ v' n' t' σ' ρ', Q1 v' n' t' σ' ρ' → (∃ v, v' = some (jI v)) ∧ t' o = some (.inl (.long, 1))) (hX : ∀ E n' t' σ' ρ', X1 E n' t' σ' ρ' → E = "java/lang/IndexOutOfBoundsException" ∨ E = "java/util/NoSuchElementException") : jk_KH G yL_misclosureByLevels mL_misclosureByLevels [(0, 9, 12, 19), (0, 9, 15, 43)] mc ms [.ref x, jI p0, .ref o] n t σ ρ (wQ o ["java/lang/IndexOutOfBoundsException", "java/util/NoSuchElementException"] Q1 X1) jk_no := by
  refine jk_entryH (ls := [some (.ref x), some (jI p0), some (.ref o), none]) jm_L_misclosureByLevels rfl rfl rfl ?_
  refine jk_aload_n (q := 1) dL_misclosureByLevels_0 rfl rfl ?_
  refine jk_iconst (q := 2) dL_misclosureByLevels_1 rfl ?_
  refine jk_aload_n (q := 3) dL_misclosureByLevels_2 rfl rfl ?_
  refine jk_iload_n (q := 4) dL_misclosureByLevels_3 rfl rfl ?_
  refine jk_callVC (q := 7) (k := 12) (As := [jI p0]) K jm_X12_misclosureByLevels jw_1298 rfl hx rfl rfl rfl (Nat.le_refl _) (Nat.le_refl _) dL_misclosureByLevels_4 rfl (fun v' n' t' σ' ρ' hq => ?_) (fun E n' t' σ' ρ' hx9 => ?_)
  · obtain ⟨⟨v, rfl⟩, hto⟩ := hQ _ _ _ _ _ hq
    simp only [Option.toList_some, List.cons_append, List.nil_append]
    refine jk_i2lw (q := 8) dL_misclosureByLevels_7 rfl ?_
    refine jk_lastR (q := 9) (by first | exact hto | exact hx) (by rfl) (by first | decide | omega) dL_misclosureByLevels_8 rfl ?_
    refine jk_goto (q := 18) dL_misclosureByLevels_9 rfl ?_
    refine jk_iconst (q := 19) dL_misclosureByLevels_18 rfl ?_
    exact jk_iret rfl dL_misclosureByLevels_19 (by exact Or.inl ⟨v, σ', hq, rfl, rfl⟩)
  · rcases hX _ _ _ _ _ hx9 with rfl | rfl
    · refine ⟨[], ⟨0, 9, 12, 19⟩, [⟨0, 9, 15, 43⟩], "java/lang/IndexOutOfBoundsException", rfl, (fun z hz => absurd hz List.not_mem_nil), rfl, by decide, jw_973, jw_593, fun a => ?_⟩
      refine jk_astore3 (q := 13) dL_misclosureByLevels_12 rfl rfl rfl ?_
      refine jk_iconst (q := 14) dL_misclosureByLevels_13 rfl ?_
      exact jk_iret rfl dL_misclosureByLevels_14 (by exact Or.inr ⟨0, by decide, hx9, rfl⟩)
    · refine ⟨[⟨0, 9, 12, 19⟩], ⟨0, 9, 15, 43⟩, [], "java/util/NoSuchElementException", rfl, (fun z hz => by
        rcases List.mem_cons.mp hz with rfl | hz
        · exact ⟨by decide, "java/lang/IndexOutOfBoundsException", jw_973, fun s h => (hzn s h).2.2.2.2.2.2⟩
        exact absurd hz List.not_mem_nil), rfl, by decide, jw_1049, jw_697, fun a => ?_⟩
      refine jk_astore3 (q := 16) dL_misclosureByLevels_15 rfl rfl rfl ?_
      refine jk_iconst (q := 17) dL_misclosureByLevels_16 rfl ?_
      exact jk_iret rfl dL_misclosureByLevels_17 (by exact Or.inr ⟨1, by decide, hx9, rfl⟩)
abbrev mL_part : jk_M := ("LevelingNetworkLaw", cL_part, 5, (some FieldType.int), tableOf [(0, 10, 13, 19), (0, 10, 17, 43)], false, 18)
theorem jm_L_part : jk_mH yL_part mL_part [(0, 10, 13, 19), (0, 10, 17, 43)] 4 := ⟨⟨jw_1304, jw_0, ⟨by decide +kernel, by decide +kernel⟩, by decide +kernel, by decide +kernel, rfl, by decide, fun h => absurd h (by decide), rfl⟩, jw_1303⟩
theorem w_part {G : jk_G} {n : Nat} {t : jk_T} {σ : jk_I} {ρ : jk_P} {x o mc ms : Nat} {p0 p1 : Int} {Q1 : jk_Q} {X1 : jk_X} (hzn : zn_ok G) (hx : t x = some (.inr 12)) (K : jk_K G yX12_part mX12_part mc ms [.ref x, jI p0, jI p1] n t σ ρ Q1 X1) (hQ : ∀ v' n' t' σ' ρ', Q1 v' n' t' σ' ρ' → (∃ v, v' = some (jI v)) ∧ t' o = some (.inl (.long, 1))) (hX : ∀ E n' t' σ' ρ', X1 E n' t' σ' ρ' → E = "java/lang/IndexOutOfBoundsException" ∨ E = "java/util/NoSuchElementException") : jk_KH G yL_part mL_part [(0, 10, 13, 19), (0, 10, 17, 43)] mc ms [.ref x, jI p0, jI p1, .ref o] n t σ ρ (wQ o ["java/lang/IndexOutOfBoundsException", "java/util/NoSuchElementException"] Q1 X1) jk_no := by
  refine jk_entryH (ls := [some (.ref x), some (jI p0), some (jI p1), some (.ref o), none]) jm_L_part rfl rfl rfl ?_
  refine jk_aload_n (q := 1) dL_part_0 rfl rfl ?_
  refine jk_iconst (q := 2) dL_part_1 rfl ?_
  refine jk_aload_n (q := 3) dL_part_2 rfl rfl ?_
  refine jk_iload_n (q := 4) dL_part_3 rfl rfl ?_
  refine jk_iload_n (q := 5) dL_part_4 rfl rfl ?_
  refine jk_callVC (q := 8) (k := 12) (As := [jI p0, jI p1]) K jm_X12_part jw_1305 rfl hx rfl rfl rfl (Nat.le_refl _) (Nat.le_refl _) dL_part_5 rfl (fun v' n' t' σ' ρ' hq => ?_) (fun E n' t' σ' ρ' hx9 => ?_)
  · obtain ⟨⟨v, rfl⟩, hto⟩ := hQ _ _ _ _ _ hq
    simp only [Option.toList_some, List.cons_append, List.nil_append]
    refine jk_i2lw (q := 9) dL_part_8 rfl ?_
    refine jk_lastR (q := 10) (by first | exact hto | exact hx) (by rfl) (by first | decide | omega) dL_part_9 rfl ?_
    refine jk_goto (q := 21) dL_part_10 rfl ?_
    refine jk_iconst (q := 22) dL_part_21 rfl ?_
    exact jk_iret rfl dL_part_22 (by exact Or.inl ⟨v, σ', hq, rfl, rfl⟩)
  · rcases hX _ _ _ _ _ hx9 with rfl | rfl
    · refine ⟨[], ⟨0, 10, 13, 19⟩, [⟨0, 10, 17, 43⟩], "java/lang/IndexOutOfBoundsException", rfl, (fun z hz => absurd hz List.not_mem_nil), rfl, by decide, jw_973, jw_593, fun a => ?_⟩
      refine jk_astore4 (q := 15) dL_part_13 rfl rfl rfl ?_
      refine jk_iconst (q := 16) dL_part_15 rfl ?_
      exact jk_iret rfl dL_part_16 (by exact Or.inr ⟨0, by decide, hx9, rfl⟩)
    · refine ⟨[⟨0, 10, 13, 19⟩], ⟨0, 10, 17, 43⟩, [], "java/util/NoSuchElementException", rfl, (fun z hz => by
        rcases List.mem_cons.mp hz with rfl | hz
        · exact ⟨by decide, "java/lang/IndexOutOfBoundsException", jw_973, fun s h => (hzn s h).2.2.2.2.2.2⟩
        exact absurd hz List.not_mem_nil), rfl, by decide, jw_1049, jw_697, fun a => ?_⟩
      refine jk_astore4 (q := 19) dL_part_17 rfl rfl rfl ?_
      refine jk_iconst (q := 20) dL_part_19 rfl ?_
      exact jk_iret rfl dL_part_20 (by exact Or.inr ⟨1, by decide, hx9, rfl⟩)
abbrev mL_stationCount : jk_M := ("LevelingNetworkLaw", cL_stationCount, 4, (some FieldType.int), tableOf [(0, 9, 12, 19)], false, 11)
theorem jm_L_stationCount : jk_mH yL_stationCount mL_stationCount [(0, 9, 12, 19)] 3 := ⟨⟨jw_1312, jw_0, ⟨by decide +kernel, by decide +kernel⟩, by decide +kernel, by decide +kernel, rfl, by decide, fun h => absurd h (by decide), rfl⟩, jw_1311⟩
theorem w_stationCount {G : jk_G} {n : Nat} {t : jk_T} {σ : jk_I} {ρ : jk_P} {x o mc ms : Nat} {p0 : Int} {Q1 : jk_Q} {X1 : jk_X} (hzn : zn_ok G) (hx : t x = some (.inr 12)) (K : jk_K G yX12_stationCount mX12_stationCount mc ms [.ref x, jI p0] n t σ ρ Q1 X1) (hQ : ∀ v' n' t' σ' ρ', Q1 v' n' t' σ' ρ' → (∃ v, v' = some (jI v)) ∧ t' o = some (.inl (.long, 1))) (hX : ∀ E n' t' σ' ρ', X1 E n' t' σ' ρ' → E = "java/lang/IndexOutOfBoundsException") : jk_KH G yL_stationCount mL_stationCount [(0, 9, 12, 19)] mc ms [.ref x, jI p0, .ref o] n t σ ρ (wQ o ["java/lang/IndexOutOfBoundsException"] Q1 X1) jk_no := by
  refine jk_entryH (ls := [some (.ref x), some (jI p0), some (.ref o), none]) jm_L_stationCount rfl rfl rfl ?_
  refine jk_aload_n (q := 1) dL_stationCount_0 rfl rfl ?_
  refine jk_iconst (q := 2) dL_stationCount_1 rfl ?_
  refine jk_aload_n (q := 3) dL_stationCount_2 rfl rfl ?_
  refine jk_iload_n (q := 4) dL_stationCount_3 rfl rfl ?_
  refine jk_callVC (q := 7) (k := 12) (As := [jI p0]) K jm_X12_stationCount jw_1313 rfl hx rfl rfl rfl (Nat.le_refl _) (Nat.le_refl _) dL_stationCount_4 rfl (fun v' n' t' σ' ρ' hq => ?_) (fun E n' t' σ' ρ' hx9 => ?_)
  · obtain ⟨⟨v, rfl⟩, hto⟩ := hQ _ _ _ _ _ hq
    simp only [Option.toList_some, List.cons_append, List.nil_append]
    refine jk_i2lw (q := 8) dL_stationCount_7 rfl ?_
    refine jk_lastR (q := 9) (by first | exact hto | exact hx) (by rfl) (by first | decide | omega) dL_stationCount_8 rfl ?_
    refine jk_goto (q := 15) dL_stationCount_9 rfl ?_
    refine jk_iconst (q := 16) dL_stationCount_15 rfl ?_
    exact jk_iret rfl dL_stationCount_16 (by exact Or.inl ⟨v, σ', hq, rfl, rfl⟩)
  · obtain rfl := hX _ _ _ _ _ hx9
    · refine ⟨[], ⟨0, 9, 12, 19⟩, [], "java/lang/IndexOutOfBoundsException", rfl, (fun z hz => absurd hz List.not_mem_nil), rfl, by decide, jw_973, jw_593, fun a => ?_⟩
      refine jk_astore3 (q := 13) dL_stationCount_12 rfl rfl rfl ?_
      refine jk_iconst (q := 14) dL_stationCount_13 rfl ?_
      exact jk_iret rfl dL_stationCount_14 (by exact Or.inr ⟨0, by decide, hx9, rfl⟩)
abbrev mL_ground : jk_M := ("LevelingNetworkLaw", cL_ground, 5, (some FieldType.int), tableOf [(0, 10, 13, 19), (0, 10, 17, 21), (0, 10, 21, 43)], false, 19)
theorem jm_L_ground : jk_mH yL_ground mL_ground [(0, 10, 13, 19), (0, 10, 17, 21), (0, 10, 21, 43)] 4 := ⟨⟨jw_1325, jw_0, ⟨by decide +kernel, by decide +kernel⟩, by decide +kernel, by decide +kernel, rfl, by decide, fun h => absurd h (by decide), rfl⟩, jw_1324⟩
theorem w_ground {G : jk_G} {n : Nat} {t : jk_T} {σ : jk_I} {ρ : jk_P} {x o mc ms : Nat} {p0 p1 : Int} {Q1 : jk_Q} {X1 : jk_X} (hzn : zn_ok G) (hx : t x = some (.inr 12)) (K : jk_K G yX12_ground mX12_ground mc ms [.ref x, jI p0, jI p1] n t σ ρ Q1 X1) (hQ : ∀ v' n' t' σ' ρ', Q1 v' n' t' σ' ρ' → (∃ v, v' = some (jI v)) ∧ t' o = some (.inl (.long, 1))) (hX : ∀ E n' t' σ' ρ', X1 E n' t' σ' ρ' → E = "java/lang/IndexOutOfBoundsException" ∨ E = "java/lang/IllegalArgumentException" ∨ E = "java/util/NoSuchElementException") : jk_KH G yL_ground mL_ground [(0, 10, 13, 19), (0, 10, 17, 21), (0, 10, 21, 43)] mc ms [.ref x, jI p0, jI p1, .ref o] n t σ ρ (wQ o ["java/lang/IndexOutOfBoundsException", "java/lang/IllegalArgumentException", "java/util/NoSuchElementException"] Q1 X1) jk_no := by
  refine jk_entryH (ls := [some (.ref x), some (jI p0), some (jI p1), some (.ref o), none]) jm_L_ground rfl rfl rfl ?_
  refine jk_aload_n (q := 1) dL_ground_0 rfl rfl ?_
  refine jk_iconst (q := 2) dL_ground_1 rfl ?_
  refine jk_aload_n (q := 3) dL_ground_2 rfl rfl ?_
  refine jk_iload_n (q := 4) dL_ground_3 rfl rfl ?_
  refine jk_iload_n (q := 5) dL_ground_4 rfl rfl ?_
  refine jk_callVC (q := 8) (k := 12) (As := [jI p0, jI p1]) K jm_X12_ground jw_1326 rfl hx rfl rfl rfl (Nat.le_refl _) (Nat.le_refl _) dL_ground_5 rfl (fun v' n' t' σ' ρ' hq => ?_) (fun E n' t' σ' ρ' hx9 => ?_)
  · obtain ⟨⟨v, rfl⟩, hto⟩ := hQ _ _ _ _ _ hq
    simp only [Option.toList_some, List.cons_append, List.nil_append]
    refine jk_i2lw (q := 9) dL_ground_8 rfl ?_
    refine jk_lastR (q := 10) (by first | exact hto | exact hx) (by rfl) (by first | decide | omega) dL_ground_9 rfl ?_
    refine jk_goto (q := 25) dL_ground_10 rfl ?_
    refine jk_iconst (q := 26) dL_ground_25 rfl ?_
    exact jk_iret rfl dL_ground_26 (by exact Or.inl ⟨v, σ', hq, rfl, rfl⟩)
  · rcases hX _ _ _ _ _ hx9 with rfl | rfl | rfl
    · refine ⟨[], ⟨0, 10, 13, 19⟩, [⟨0, 10, 17, 21⟩, ⟨0, 10, 21, 43⟩], "java/lang/IndexOutOfBoundsException", rfl, (fun z hz => absurd hz List.not_mem_nil), rfl, by decide, jw_973, jw_593, fun a => ?_⟩
      refine jk_astore4 (q := 15) dL_ground_13 rfl rfl rfl ?_
      refine jk_iconst (q := 16) dL_ground_15 rfl ?_
      exact jk_iret rfl dL_ground_16 (by exact Or.inr ⟨0, by decide, hx9, rfl⟩)
    · refine ⟨[⟨0, 10, 13, 19⟩], ⟨0, 10, 17, 21⟩, [⟨0, 10, 21, 43⟩], "java/lang/IllegalArgumentException", rfl, (fun z hz => by
        rcases List.mem_cons.mp hz with rfl | hz
        · exact ⟨by decide, "java/lang/IndexOutOfBoundsException", jw_973, fun s h => (hzn s h).2.2.2.2.1⟩
        exact absurd hz List.not_mem_nil), rfl, by decide, jw_994, jw_665, fun a => ?_⟩
      refine jk_astore4 (q := 19) dL_ground_17 rfl rfl rfl ?_
      refine jk_iconst (q := 20) dL_ground_19 rfl ?_
      exact jk_iret rfl dL_ground_20 (by exact Or.inr ⟨1, by decide, hx9, rfl⟩)
    · refine ⟨[⟨0, 10, 13, 19⟩, ⟨0, 10, 17, 21⟩], ⟨0, 10, 21, 43⟩, [], "java/util/NoSuchElementException", rfl, (fun z hz => by
        rcases List.mem_cons.mp hz with rfl | hz
        · exact ⟨by decide, "java/lang/IndexOutOfBoundsException", jw_973, fun s h => (hzn s h).2.2.2.2.2.2⟩
        rcases List.mem_cons.mp hz with rfl | hz
        · exact ⟨by decide, "java/lang/IllegalArgumentException", jw_994, fun s h => (hzn s h).2.2.2.1⟩
        exact absurd hz List.not_mem_nil), rfl, by decide, jw_1049, jw_697, fun a => ?_⟩
      refine jk_astore4 (q := 23) dL_ground_21 rfl rfl rfl ?_
      refine jk_iconst (q := 24) dL_ground_23 rfl ?_
      exact jk_iret rfl dL_ground_24 (by exact Or.inr ⟨2, by decide, hx9, rfl⟩)
abbrev mL_wetColumns : jk_M := ("LevelingNetworkLaw", cL_wetColumns, 4, (some FieldType.int), tableOf [(0, 9, 12, 19), (0, 9, 15, 43)], false, 20)
theorem jm_L_wetColumns : jk_mH yL_wetColumns mL_wetColumns [(0, 9, 12, 19), (0, 9, 15, 43)] 3 := ⟨⟨jw_1339, jw_0, ⟨by decide +kernel, by decide +kernel⟩, by decide +kernel, by decide +kernel, rfl, by decide, fun h => absurd h (by decide), rfl⟩, jw_1338⟩
theorem w_wetColumns {G : jk_G} {n : Nat} {t : jk_T} {σ : jk_I} {ρ : jk_P} {x o mc ms : Nat} {p0 : Int} {Q1 : jk_Q} {X1 : jk_X} (hzn : zn_ok G) (hx : t x = some (.inr 12)) (K : jk_K G yX12_wetColumns mX12_wetColumns mc ms [.ref x, jI p0] n t σ ρ Q1 X1) (hQ : ∀ v' n' t' σ' ρ', Q1 v' n' t' σ' ρ' → (∃ v, v' = some (jI v)) ∧ t' o = some (.inl (.long, 1))) (hX : ∀ E n' t' σ' ρ', X1 E n' t' σ' ρ' → E = "java/lang/IndexOutOfBoundsException" ∨ E = "java/util/NoSuchElementException") : jk_KH G yL_wetColumns mL_wetColumns [(0, 9, 12, 19), (0, 9, 15, 43)] mc ms [.ref x, jI p0, .ref o] n t σ ρ (wQ o ["java/lang/IndexOutOfBoundsException", "java/util/NoSuchElementException"] Q1 X1) jk_no := by
  refine jk_entryH (ls := [some (.ref x), some (jI p0), some (.ref o), none]) jm_L_wetColumns rfl rfl rfl ?_
  refine jk_aload_n (q := 1) dL_wetColumns_0 rfl rfl ?_
  refine jk_iconst (q := 2) dL_wetColumns_1 rfl ?_
  refine jk_aload_n (q := 3) dL_wetColumns_2 rfl rfl ?_
  refine jk_iload_n (q := 4) dL_wetColumns_3 rfl rfl ?_
  refine jk_callVC (q := 7) (k := 12) (As := [jI p0]) K jm_X12_wetColumns jw_1340 rfl hx rfl rfl rfl (Nat.le_refl _) (Nat.le_refl _) dL_wetColumns_4 rfl (fun v' n' t' σ' ρ' hq => ?_) (fun E n' t' σ' ρ' hx9 => ?_)
  · obtain ⟨⟨v, rfl⟩, hto⟩ := hQ _ _ _ _ _ hq
    simp only [Option.toList_some, List.cons_append, List.nil_append]
    refine jk_i2lw (q := 8) dL_wetColumns_7 rfl ?_
    refine jk_lastR (q := 9) (by first | exact hto | exact hx) (by rfl) (by first | decide | omega) dL_wetColumns_8 rfl ?_
    refine jk_goto (q := 18) dL_wetColumns_9 rfl ?_
    refine jk_iconst (q := 19) dL_wetColumns_18 rfl ?_
    exact jk_iret rfl dL_wetColumns_19 (by exact Or.inl ⟨v, σ', hq, rfl, rfl⟩)
  · rcases hX _ _ _ _ _ hx9 with rfl | rfl
    · refine ⟨[], ⟨0, 9, 12, 19⟩, [⟨0, 9, 15, 43⟩], "java/lang/IndexOutOfBoundsException", rfl, (fun z hz => absurd hz List.not_mem_nil), rfl, by decide, jw_973, jw_593, fun a => ?_⟩
      refine jk_astore3 (q := 13) dL_wetColumns_12 rfl rfl rfl ?_
      refine jk_iconst (q := 14) dL_wetColumns_13 rfl ?_
      exact jk_iret rfl dL_wetColumns_14 (by exact Or.inr ⟨0, by decide, hx9, rfl⟩)
    · refine ⟨[⟨0, 9, 12, 19⟩], ⟨0, 9, 15, 43⟩, [], "java/util/NoSuchElementException", rfl, (fun z hz => by
        rcases List.mem_cons.mp hz with rfl | hz
        · exact ⟨by decide, "java/lang/IndexOutOfBoundsException", jw_973, fun s h => (hzn s h).2.2.2.2.2.2⟩
        exact absurd hz List.not_mem_nil), rfl, by decide, jw_1049, jw_697, fun a => ?_⟩
      refine jk_astore3 (q := 16) dL_wetColumns_15 rfl rfl rfl ?_
      refine jk_iconst (q := 17) dL_wetColumns_16 rfl ?_
      exact jk_iret rfl dL_wetColumns_17 (by exact Or.inr ⟨1, by decide, hx9, rfl⟩)
abbrev mL_wetColumnsBySegments : jk_M := ("LevelingNetworkLaw", cL_wetColumnsBySegments, 4, (some FieldType.int), tableOf [(0, 9, 12, 19), (0, 9, 15, 43)], false, 20)
theorem jm_L_wetColumnsBySegments : jk_mH yL_wetColumnsBySegments mL_wetColumnsBySegments [(0, 9, 12, 19), (0, 9, 15, 43)] 3 := ⟨⟨jw_1346, jw_0, ⟨by decide +kernel, by decide +kernel⟩, by decide +kernel, by decide +kernel, rfl, by decide, fun h => absurd h (by decide), rfl⟩, jw_1345⟩
theorem w_wetColumnsBySegments {G : jk_G} {n : Nat} {t : jk_T} {σ : jk_I} {ρ : jk_P} {x o mc ms : Nat} {p0 : Int} {Q1 : jk_Q} {X1 : jk_X} (hzn : zn_ok G) (hx : t x = some (.inr 12)) (K : jk_K G yX12_wetColumnsBySegments mX12_wetColumnsBySegments mc ms [.ref x, jI p0] n t σ ρ Q1 X1) (hQ : ∀ v' n' t' σ' ρ', Q1 v' n' t' σ' ρ' → (∃ v, v' = some (jI v)) ∧ t' o = some (.inl (.long, 1))) (hX : ∀ E n' t' σ' ρ', X1 E n' t' σ' ρ' → E = "java/lang/IndexOutOfBoundsException" ∨ E = "java/util/NoSuchElementException") : jk_KH G yL_wetColumnsBySegments mL_wetColumnsBySegments [(0, 9, 12, 19), (0, 9, 15, 43)] mc ms [.ref x, jI p0, .ref o] n t σ ρ (wQ o ["java/lang/IndexOutOfBoundsException", "java/util/NoSuchElementException"] Q1 X1) jk_no := by
  refine jk_entryH (ls := [some (.ref x), some (jI p0), some (.ref o), none]) jm_L_wetColumnsBySegments rfl rfl rfl ?_
  refine jk_aload_n (q := 1) dL_wetColumnsBySegments_0 rfl rfl ?_
  refine jk_iconst (q := 2) dL_wetColumnsBySegments_1 rfl ?_
  refine jk_aload_n (q := 3) dL_wetColumnsBySegments_2 rfl rfl ?_
  refine jk_iload_n (q := 4) dL_wetColumnsBySegments_3 rfl rfl ?_
  refine jk_callVC (q := 7) (k := 12) (As := [jI p0]) K jm_X12_wetColumnsBySegments jw_1347 rfl hx rfl rfl rfl (Nat.le_refl _) (Nat.le_refl _) dL_wetColumnsBySegments_4 rfl (fun v' n' t' σ' ρ' hq => ?_) (fun E n' t' σ' ρ' hx9 => ?_)
  · obtain ⟨⟨v, rfl⟩, hto⟩ := hQ _ _ _ _ _ hq
    simp only [Option.toList_some, List.cons_append, List.nil_append]
    refine jk_i2lw (q := 8) dL_wetColumnsBySegments_7 rfl ?_
    refine jk_lastR (q := 9) (by first | exact hto | exact hx) (by rfl) (by first | decide | omega) dL_wetColumnsBySegments_8 rfl ?_
    refine jk_goto (q := 18) dL_wetColumnsBySegments_9 rfl ?_
    refine jk_iconst (q := 19) dL_wetColumnsBySegments_18 rfl ?_
    exact jk_iret rfl dL_wetColumnsBySegments_19 (by exact Or.inl ⟨v, σ', hq, rfl, rfl⟩)
  · rcases hX _ _ _ _ _ hx9 with rfl | rfl
    · refine ⟨[], ⟨0, 9, 12, 19⟩, [⟨0, 9, 15, 43⟩], "java/lang/IndexOutOfBoundsException", rfl, (fun z hz => absurd hz List.not_mem_nil), rfl, by decide, jw_973, jw_593, fun a => ?_⟩
      refine jk_astore3 (q := 13) dL_wetColumnsBySegments_12 rfl rfl rfl ?_
      refine jk_iconst (q := 14) dL_wetColumnsBySegments_13 rfl ?_
      exact jk_iret rfl dL_wetColumnsBySegments_14 (by exact Or.inr ⟨0, by decide, hx9, rfl⟩)
    · refine ⟨[⟨0, 9, 12, 19⟩], ⟨0, 9, 15, 43⟩, [], "java/util/NoSuchElementException", rfl, (fun z hz => by
        rcases List.mem_cons.mp hz with rfl | hz
        · exact ⟨by decide, "java/lang/IndexOutOfBoundsException", jw_973, fun s h => (hzn s h).2.2.2.2.2.2⟩
        exact absurd hz List.not_mem_nil), rfl, by decide, jw_1049, jw_697, fun a => ?_⟩
      refine jk_astore3 (q := 16) dL_wetColumnsBySegments_15 rfl rfl rfl ?_
      refine jk_iconst (q := 17) dL_wetColumnsBySegments_16 rfl ?_
      exact jk_iret rfl dL_wetColumnsBySegments_17 (by exact Or.inr ⟨1, by decide, hx9, rfl⟩)
abbrev mL_shores : jk_M := ("LevelingNetworkLaw", cL_shores, 4, (some FieldType.int), tableOf [(0, 9, 12, 19), (0, 9, 15, 43)], false, 20)
theorem jm_L_shores : jk_mH yL_shores mL_shores [(0, 9, 12, 19), (0, 9, 15, 43)] 3 := ⟨⟨jw_1353, jw_0, ⟨by decide +kernel, by decide +kernel⟩, by decide +kernel, by decide +kernel, rfl, by decide, fun h => absurd h (by decide), rfl⟩, jw_1352⟩
theorem w_shores {G : jk_G} {n : Nat} {t : jk_T} {σ : jk_I} {ρ : jk_P} {x o mc ms : Nat} {p0 : Int} {Q1 : jk_Q} {X1 : jk_X} (hzn : zn_ok G) (hx : t x = some (.inr 12)) (K : jk_K G yX12_shores mX12_shores mc ms [.ref x, jI p0] n t σ ρ Q1 X1) (hQ : ∀ v' n' t' σ' ρ', Q1 v' n' t' σ' ρ' → (∃ v, v' = some (jI v)) ∧ t' o = some (.inl (.long, 1))) (hX : ∀ E n' t' σ' ρ', X1 E n' t' σ' ρ' → E = "java/lang/IndexOutOfBoundsException" ∨ E = "java/util/NoSuchElementException") : jk_KH G yL_shores mL_shores [(0, 9, 12, 19), (0, 9, 15, 43)] mc ms [.ref x, jI p0, .ref o] n t σ ρ (wQ o ["java/lang/IndexOutOfBoundsException", "java/util/NoSuchElementException"] Q1 X1) jk_no := by
  refine jk_entryH (ls := [some (.ref x), some (jI p0), some (.ref o), none]) jm_L_shores rfl rfl rfl ?_
  refine jk_aload_n (q := 1) dL_shores_0 rfl rfl ?_
  refine jk_iconst (q := 2) dL_shores_1 rfl ?_
  refine jk_aload_n (q := 3) dL_shores_2 rfl rfl ?_
  refine jk_iload_n (q := 4) dL_shores_3 rfl rfl ?_
  refine jk_callVC (q := 7) (k := 12) (As := [jI p0]) K jm_X12_shores jw_1354 rfl hx rfl rfl rfl (Nat.le_refl _) (Nat.le_refl _) dL_shores_4 rfl (fun v' n' t' σ' ρ' hq => ?_) (fun E n' t' σ' ρ' hx9 => ?_)
  · obtain ⟨⟨v, rfl⟩, hto⟩ := hQ _ _ _ _ _ hq
    simp only [Option.toList_some, List.cons_append, List.nil_append]
    refine jk_i2lw (q := 8) dL_shores_7 rfl ?_
    refine jk_lastR (q := 9) (by first | exact hto | exact hx) (by rfl) (by first | decide | omega) dL_shores_8 rfl ?_
    refine jk_goto (q := 18) dL_shores_9 rfl ?_
    refine jk_iconst (q := 19) dL_shores_18 rfl ?_
    exact jk_iret rfl dL_shores_19 (by exact Or.inl ⟨v, σ', hq, rfl, rfl⟩)
  · rcases hX _ _ _ _ _ hx9 with rfl | rfl
    · refine ⟨[], ⟨0, 9, 12, 19⟩, [⟨0, 9, 15, 43⟩], "java/lang/IndexOutOfBoundsException", rfl, (fun z hz => absurd hz List.not_mem_nil), rfl, by decide, jw_973, jw_593, fun a => ?_⟩
      refine jk_astore3 (q := 13) dL_shores_12 rfl rfl rfl ?_
      refine jk_iconst (q := 14) dL_shores_13 rfl ?_
      exact jk_iret rfl dL_shores_14 (by exact Or.inr ⟨0, by decide, hx9, rfl⟩)
    · refine ⟨[⟨0, 9, 12, 19⟩], ⟨0, 9, 15, 43⟩, [], "java/util/NoSuchElementException", rfl, (fun z hz => by
        rcases List.mem_cons.mp hz with rfl | hz
        · exact ⟨by decide, "java/lang/IndexOutOfBoundsException", jw_973, fun s h => (hzn s h).2.2.2.2.2.2⟩
        exact absurd hz List.not_mem_nil), rfl, by decide, jw_1049, jw_697, fun a => ?_⟩
      refine jk_astore3 (q := 16) dL_shores_15 rfl rfl rfl ?_
      refine jk_iconst (q := 17) dL_shores_16 rfl ?_
      exact jk_iret rfl dL_shores_17 (by exact Or.inr ⟨1, by decide, hx9, rfl⟩)
abbrev mL_lowestColumn : jk_M := ("LevelingNetworkLaw", cL_lowestColumn, 4, (some FieldType.int), tableOf [(0, 9, 12, 19), (0, 9, 15, 43)], false, 11)
theorem jm_L_lowestColumn : jk_mH yL_lowestColumn mL_lowestColumn [(0, 9, 12, 19), (0, 9, 15, 43)] 3 := ⟨⟨jw_1364, jw_0, ⟨by decide +kernel, by decide +kernel⟩, by decide +kernel, by decide +kernel, rfl, by decide, fun h => absurd h (by decide), rfl⟩, jw_1363⟩
theorem w_lowestColumn {G : jk_G} {n : Nat} {t : jk_T} {σ : jk_I} {ρ : jk_P} {x o mc ms : Nat} {p0 : Int} {Q1 : jk_Q} {X1 : jk_X} (hzn : zn_ok G) (hx : t x = some (.inr 12)) (K : jk_K G yX12_lowestColumn mX12_lowestColumn mc ms [.ref x, jI p0] n t σ ρ Q1 X1) (hQ : ∀ v' n' t' σ' ρ', Q1 v' n' t' σ' ρ' → (∃ v, v' = some (jI v)) ∧ t' o = some (.inl (.long, 1))) (hX : ∀ E n' t' σ' ρ', X1 E n' t' σ' ρ' → E = "java/lang/IndexOutOfBoundsException" ∨ E = "java/util/NoSuchElementException") : jk_KH G yL_lowestColumn mL_lowestColumn [(0, 9, 12, 19), (0, 9, 15, 43)] mc ms [.ref x, jI p0, .ref o] n t σ ρ (wQ o ["java/lang/IndexOutOfBoundsException", "java/util/NoSuchElementException"] Q1 X1) jk_no := by
  refine jk_entryH (ls := [some (.ref x), some (jI p0), some (.ref o), none]) jm_L_lowestColumn rfl rfl rfl ?_
  refine jk_aload_n (q := 1) dL_lowestColumn_0 rfl rfl ?_
  refine jk_iconst (q := 2) dL_lowestColumn_1 rfl ?_
  refine jk_aload_n (q := 3) dL_lowestColumn_2 rfl rfl ?_
  refine jk_iload_n (q := 4) dL_lowestColumn_3 rfl rfl ?_
  refine jk_callVC (q := 7) (k := 12) (As := [jI p0]) K jm_X12_lowestColumn jw_1365 rfl hx rfl rfl rfl (Nat.le_refl _) (Nat.le_refl _) dL_lowestColumn_4 rfl (fun v' n' t' σ' ρ' hq => ?_) (fun E n' t' σ' ρ' hx9 => ?_)
  · obtain ⟨⟨v, rfl⟩, hto⟩ := hQ _ _ _ _ _ hq
    simp only [Option.toList_some, List.cons_append, List.nil_append]
    refine jk_i2lw (q := 8) dL_lowestColumn_7 rfl ?_
    refine jk_lastR (q := 9) (by first | exact hto | exact hx) (by rfl) (by first | decide | omega) dL_lowestColumn_8 rfl ?_
    refine jk_goto (q := 18) dL_lowestColumn_9 rfl ?_
    refine jk_iconst (q := 19) dL_lowestColumn_18 rfl ?_
    exact jk_iret rfl dL_lowestColumn_19 (by exact Or.inl ⟨v, σ', hq, rfl, rfl⟩)
  · rcases hX _ _ _ _ _ hx9 with rfl | rfl
    · refine ⟨[], ⟨0, 9, 12, 19⟩, [⟨0, 9, 15, 43⟩], "java/lang/IndexOutOfBoundsException", rfl, (fun z hz => absurd hz List.not_mem_nil), rfl, by decide, jw_973, jw_593, fun a => ?_⟩
      refine jk_astore3 (q := 13) dL_lowestColumn_12 rfl rfl rfl ?_
      refine jk_iconst (q := 14) dL_lowestColumn_13 rfl ?_
      exact jk_iret rfl dL_lowestColumn_14 (by exact Or.inr ⟨0, by decide, hx9, rfl⟩)
    · refine ⟨[⟨0, 9, 12, 19⟩], ⟨0, 9, 15, 43⟩, [], "java/util/NoSuchElementException", rfl, (fun z hz => by
        rcases List.mem_cons.mp hz with rfl | hz
        · exact ⟨by decide, "java/lang/IndexOutOfBoundsException", jw_973, fun s h => (hzn s h).2.2.2.2.2.2⟩
        exact absurd hz List.not_mem_nil), rfl, by decide, jw_1049, jw_697, fun a => ?_⟩
      refine jk_astore3 (q := 16) dL_lowestColumn_15 rfl rfl rfl ?_
      refine jk_iconst (q := 17) dL_lowestColumn_16 rfl ?_
      exact jk_iret rfl dL_lowestColumn_17 (by exact Or.inr ⟨1, by decide, hx9, rfl⟩)
abbrev mL_meanLength : jk_M := ("LevelingNetworkLaw", cL_meanLength, 3, (some FieldType.int), tableOf [(0, 7, 10, 152)], false, 10)
theorem jm_L_meanLength : jk_mH yL_meanLength mL_meanLength [(0, 7, 10, 152)] 2 := ⟨⟨jw_1376, jw_0, ⟨by decide +kernel, by decide +kernel⟩, by decide +kernel, by decide +kernel, rfl, by decide, fun h => absurd h (by decide), rfl⟩, jw_1375⟩
theorem w_meanLength {G : jk_G} {n : Nat} {t : jk_T} {σ : jk_I} {ρ : jk_P} {x o mc ms : Nat} {Q1 : jk_Q} {X1 : jk_X} (hzn : zn_ok G) (hx : t x = some (.inr 12)) (K : jk_K G yX12_meanLength mX12_meanLength mc ms [.ref x] n t σ ρ Q1 X1) (hQ : ∀ v' n' t' σ' ρ', Q1 v' n' t' σ' ρ' → (∃ y, v' = some (.double y)) ∧ t' o = some (.inl (.double, 1))) (hX : ∀ E n' t' σ' ρ', X1 E n' t' σ' ρ' → E = "java/lang/ArithmeticException") : jk_KH G yL_meanLength mL_meanLength [(0, 7, 10, 152)] mc ms [.ref x, .ref o] n t σ ρ (wQd o ["java/lang/ArithmeticException"] Q1 X1) jk_no := by
  refine jk_entryH (ls := [some (.ref x), some (.ref o), none]) jm_L_meanLength rfl rfl rfl ?_
  refine jk_aload_n (q := 1) dL_meanLength_0 rfl rfl ?_
  refine jk_iconst (q := 2) dL_meanLength_1 rfl ?_
  refine jk_aload_n (q := 3) dL_meanLength_2 rfl rfl ?_
  refine jk_callVC (q := 6) (k := 12) (As := []) K jm_X12_meanLength jw_1391 rfl hx rfl rfl rfl (Nat.le_refl _) (Nat.le_refl _) dL_meanLength_3 rfl (fun v' n' t' σ' ρ' hq => ?_) (fun E n' t' σ' ρ' hx9 => ?_)
  · obtain ⟨⟨y9, rfl⟩, hto⟩ := hQ _ _ _ _ _ hq
    simp only [Option.toList_some, List.cons_append, List.nil_append]
    refine jk_dastR (q := 7) (by first | exact hto | exact hx) (by rfl) (by first | decide | omega) dL_meanLength_6 rfl ?_
    refine jk_goto (q := 13) dL_meanLength_7 rfl ?_
    refine jk_iconst (q := 14) dL_meanLength_13 rfl ?_
    exact jk_iret rfl dL_meanLength_14 (by exact Or.inl ⟨y9, σ', hq, rfl, rfl⟩)
  · obtain rfl := hX _ _ _ _ _ hx9
    · refine ⟨[], ⟨0, 7, 10, 152⟩, [], "java/lang/ArithmeticException", rfl, (fun z hz => absurd hz List.not_mem_nil), rfl, by decide, jw_1377, jw_1389, fun a => ?_⟩
      refine jk_astore2 (q := 11) dL_meanLength_10 rfl rfl rfl ?_
      refine jk_iconst (q := 12) dL_meanLength_11 rfl ?_
      exact jk_iret rfl dL_meanLength_12 (by exact Or.inr ⟨0, by decide, hx9, rfl⟩)
abbrev mL_usableShare : jk_M := ("LevelingNetworkLaw", cL_usableShare, 3, (some FieldType.int), tableOf [(0, 8, 11, 152)], false, 10)
theorem jm_L_usableShare : jk_mH yL_usableShare mL_usableShare [(0, 8, 11, 152)] 2 := ⟨⟨jw_1404, jw_0, ⟨by decide +kernel, by decide +kernel⟩, by decide +kernel, by decide +kernel, rfl, by decide, fun h => absurd h (by decide), rfl⟩, jw_1403⟩
theorem w_usableShare {G : jk_G} {n : Nat} {t : jk_T} {σ : jk_I} {ρ : jk_P} {x o mc ms : Nat} {Q1 : jk_Q} {X1 : jk_X} (hzn : zn_ok G) (hx : t x = some (.inr 12)) (K : jk_K G yX12_usableShare mX12_usableShare mc ms [.ref x] n t σ ρ Q1 X1) (hQ : ∀ v' n' t' σ' ρ', Q1 v' n' t' σ' ρ' → (∃ y, v' = some (.float y) ∧ vf_n64 (FP.f2d y)) ∧ t' o = some (.inl (.double, 1))) (hX : ∀ E n' t' σ' ρ', X1 E n' t' σ' ρ' → E = "java/lang/ArithmeticException") : jk_KH G yL_usableShare mL_usableShare [(0, 8, 11, 152)] mc ms [.ref x, .ref o] n t σ ρ (wQf o ["java/lang/ArithmeticException"] Q1 X1) jk_no := by
  refine jk_entryH (ls := [some (.ref x), some (.ref o), none]) jm_L_usableShare rfl rfl rfl ?_
  refine jk_aload_n (q := 1) dL_usableShare_0 rfl rfl ?_
  refine jk_iconst (q := 2) dL_usableShare_1 rfl ?_
  refine jk_aload_n (q := 3) dL_usableShare_2 rfl rfl ?_
  refine jk_callVC (q := 6) (k := 12) (As := []) K jm_X12_usableShare jw_1405 rfl hx rfl rfl rfl (Nat.le_refl _) (Nat.le_refl _) dL_usableShare_3 rfl (fun v' n' t' σ' ρ' hq => ?_) (fun E n' t' σ' ρ' hx9 => ?_)
  · obtain ⟨⟨y9, rfl, hny⟩, hto⟩ := hQ _ _ _ _ _ hq
    simp only [Option.toList_some, List.cons_append, List.nil_append]
    refine jk_f2d (q := 7) (by exact hny) dL_usableShare_6 rfl ?_
    refine jk_dastR (q := 8) (by first | exact hto | exact hx) (by rfl) (by first | decide | omega) dL_usableShare_7 rfl ?_
    refine jk_goto (q := 14) dL_usableShare_8 rfl ?_
    refine jk_iconst (q := 15) dL_usableShare_14 rfl ?_
    exact jk_iret rfl dL_usableShare_15 (by exact Or.inl ⟨y9, σ', hq, rfl, rfl⟩)
  · obtain rfl := hX _ _ _ _ _ hx9
    · refine ⟨[], ⟨0, 8, 11, 152⟩, [], "java/lang/ArithmeticException", rfl, (fun z hz => absurd hz List.not_mem_nil), rfl, by decide, jw_1377, jw_1389, fun a => ?_⟩
      refine jk_astore2 (q := 12) dL_usableShare_11 rfl rfl rfl ?_
      refine jk_iconst (q := 13) dL_usableShare_12 rfl ?_
      exact jk_iret rfl dL_usableShare_13 (by exact Or.inr ⟨0, by decide, hx9, rfl⟩)
abbrev mL_renderLine : jk_M := ("LevelingNetworkLaw", cL_renderLine, 4, (some FieldType.int), tableOf [(0, 9, 12, 19)], false, 33)
theorem jm_L_renderLine : jk_mH yL_renderLine mL_renderLine [(0, 9, 12, 19)] 3 := ⟨⟨jw_1412, jw_0, ⟨by decide +kernel, by decide +kernel⟩, by decide +kernel, by decide +kernel, rfl, by decide, fun h => absurd h (by decide), rfl⟩, jw_1411⟩
theorem w_renderLine {G : jk_G} {n : Nat} {t : jk_T} {σ : jk_I} {ρ : jk_P} {x o mc ms : Nat} {p0 : Int} {Q1 : jk_Q} {X1 : jk_X} (hzn : zn_ok G) (hx : t x = some (.inr 12)) (K : jk_K G yX12_renderLine mX12_renderLine mc ms [.ref x, jI p0] n t σ ρ Q1 X1) (hQ : ∀ v' n' t' σ' ρ', Q1 v' n' t' σ' ρ' → (∃ v, v' = some (jI v)) ∧ t' o = some (.inl (.long, 1))) (hX : ∀ E n' t' σ' ρ', X1 E n' t' σ' ρ' → E = "java/lang/IndexOutOfBoundsException") : jk_KH G yL_renderLine mL_renderLine [(0, 9, 12, 19)] mc ms [.ref x, jI p0, .ref o] n t σ ρ (wQ o ["java/lang/IndexOutOfBoundsException"] Q1 X1) jk_no := by
  refine jk_entryH (ls := [some (.ref x), some (jI p0), some (.ref o), none]) jm_L_renderLine rfl rfl rfl ?_
  refine jk_aload_n (q := 1) dL_renderLine_0 rfl rfl ?_
  refine jk_iconst (q := 2) dL_renderLine_1 rfl ?_
  refine jk_aload_n (q := 3) dL_renderLine_2 rfl rfl ?_
  refine jk_iload_n (q := 4) dL_renderLine_3 rfl rfl ?_
  refine jk_callVC (q := 7) (k := 12) (As := [jI p0]) K jm_X12_renderLine jw_1413 rfl hx rfl rfl rfl (Nat.le_refl _) (Nat.le_refl _) dL_renderLine_4 rfl (fun v' n' t' σ' ρ' hq => ?_) (fun E n' t' σ' ρ' hx9 => ?_)
  · obtain ⟨⟨v, rfl⟩, hto⟩ := hQ _ _ _ _ _ hq
    simp only [Option.toList_some, List.cons_append, List.nil_append]
    refine jk_i2lw (q := 8) dL_renderLine_7 rfl ?_
    refine jk_lastR (q := 9) (by first | exact hto | exact hx) (by rfl) (by first | decide | omega) dL_renderLine_8 rfl ?_
    refine jk_goto (q := 15) dL_renderLine_9 rfl ?_
    refine jk_iconst (q := 16) dL_renderLine_15 rfl ?_
    exact jk_iret rfl dL_renderLine_16 (by exact Or.inl ⟨v, σ', hq, rfl, rfl⟩)
  · obtain rfl := hX _ _ _ _ _ hx9
    · refine ⟨[], ⟨0, 9, 12, 19⟩, [], "java/lang/IndexOutOfBoundsException", rfl, (fun z hz => absurd hz List.not_mem_nil), rfl, by decide, jw_973, jw_593, fun a => ?_⟩
      refine jk_astore3 (q := 13) dL_renderLine_12 rfl rfl rfl ?_
      refine jk_iconst (q := 14) dL_renderLine_13 rfl ?_
      exact jk_iret rfl dL_renderLine_14 (by exact Or.inr ⟨0, by decide, hx9, rfl⟩)
abbrev mL_renderBenchmark : jk_M := ("LevelingNetworkLaw", cL_renderBenchmark, 4, (some FieldType.int), tableOf [(0, 9, 12, 19)], false, 33)
theorem jm_L_renderBenchmark : jk_mH yL_renderBenchmark mL_renderBenchmark [(0, 9, 12, 19)] 3 := ⟨⟨jw_1701, jw_0, ⟨by decide +kernel, by decide +kernel⟩, by decide +kernel, by decide +kernel, rfl, by decide, fun h => absurd h (by decide), rfl⟩, jw_1700⟩
theorem w_renderBenchmark {G : jk_G} {n : Nat} {t : jk_T} {σ : jk_I} {ρ : jk_P} {x o mc ms : Nat} {p0 : Int} {Q1 : jk_Q} {X1 : jk_X} (hzn : zn_ok G) (hx : t x = some (.inr 12)) (K : jk_K G yX12_renderBenchmark mX12_renderBenchmark mc ms [.ref x, jI p0] n t σ ρ Q1 X1) (hQ : ∀ v' n' t' σ' ρ', Q1 v' n' t' σ' ρ' → (∃ v, v' = some (jI v)) ∧ t' o = some (.inl (.long, 1))) (hX : ∀ E n' t' σ' ρ', X1 E n' t' σ' ρ' → E = "java/lang/IndexOutOfBoundsException") : jk_KH G yL_renderBenchmark mL_renderBenchmark [(0, 9, 12, 19)] mc ms [.ref x, jI p0, .ref o] n t σ ρ (wQ o ["java/lang/IndexOutOfBoundsException"] Q1 X1) jk_no := by
  refine jk_entryH (ls := [some (.ref x), some (jI p0), some (.ref o), none]) jm_L_renderBenchmark rfl rfl rfl ?_
  refine jk_aload_n (q := 1) dL_renderBenchmark_0 rfl rfl ?_
  refine jk_iconst (q := 2) dL_renderBenchmark_1 rfl ?_
  refine jk_aload_n (q := 3) dL_renderBenchmark_2 rfl rfl ?_
  refine jk_iload_n (q := 4) dL_renderBenchmark_3 rfl rfl ?_
  refine jk_callVC (q := 7) (k := 12) (As := [jI p0]) K jm_X12_renderBenchmark jw_1702 rfl hx rfl rfl rfl (Nat.le_refl _) (Nat.le_refl _) dL_renderBenchmark_4 rfl (fun v' n' t' σ' ρ' hq => ?_) (fun E n' t' σ' ρ' hx9 => ?_)
  · obtain ⟨⟨v, rfl⟩, hto⟩ := hQ _ _ _ _ _ hq
    simp only [Option.toList_some, List.cons_append, List.nil_append]
    refine jk_i2lw (q := 8) dL_renderBenchmark_7 rfl ?_
    refine jk_lastR (q := 9) (by first | exact hto | exact hx) (by rfl) (by first | decide | omega) dL_renderBenchmark_8 rfl ?_
    refine jk_goto (q := 15) dL_renderBenchmark_9 rfl ?_
    refine jk_iconst (q := 16) dL_renderBenchmark_15 rfl ?_
    exact jk_iret rfl dL_renderBenchmark_16 (by exact Or.inl ⟨v, σ', hq, rfl, rfl⟩)
  · obtain rfl := hX _ _ _ _ _ hx9
    · refine ⟨[], ⟨0, 9, 12, 19⟩, [], "java/lang/IndexOutOfBoundsException", rfl, (fun z hz => absurd hz List.not_mem_nil), rfl, by decide, jw_973, jw_593, fun a => ?_⟩
      refine jk_astore3 (q := 13) dL_renderBenchmark_12 rfl rfl rfl ?_
      refine jk_iconst (q := 14) dL_renderBenchmark_13 rfl ?_
      exact jk_iret rfl dL_renderBenchmark_14 (by exact Or.inr ⟨0, by decide, hx9, rfl⟩)
abbrev mL_outputAt : jk_M := ("LevelingNetworkLaw", cL_outputAt, 4, (some FieldType.int), tableOf [(0, 9, 12, 19)], false, 14)
theorem jm_L_outputAt : jk_mH yL_outputAt mL_outputAt [(0, 9, 12, 19)] 3 := ⟨⟨jw_1708, jw_0, ⟨by decide +kernel, by decide +kernel⟩, by decide +kernel, by decide +kernel, rfl, by decide, fun h => absurd h (by decide), rfl⟩, jw_1707⟩
theorem w_outputAt {G : jk_G} {n : Nat} {t : jk_T} {σ : jk_I} {ρ : jk_P} {x o mc ms : Nat} {p0 : Int} {Q1 : jk_Q} {X1 : jk_X} (hzn : zn_ok G) (hx : t x = some (.inr 12)) (K : jk_K G yX12_outputAt mX12_outputAt mc ms [.ref x, jI p0] n t σ ρ Q1 X1) (hQ : ∀ v' n' t' σ' ρ', Q1 v' n' t' σ' ρ' → (∃ v, v' = some (jI v)) ∧ t' o = some (.inl (.long, 1))) (hX : ∀ E n' t' σ' ρ', X1 E n' t' σ' ρ' → E = "java/lang/IndexOutOfBoundsException") : jk_KH G yL_outputAt mL_outputAt [(0, 9, 12, 19)] mc ms [.ref x, jI p0, .ref o] n t σ ρ (wQ o ["java/lang/IndexOutOfBoundsException"] Q1 X1) jk_no := by
  refine jk_entryH (ls := [some (.ref x), some (jI p0), some (.ref o), none]) jm_L_outputAt rfl rfl rfl ?_
  refine jk_aload_n (q := 1) dL_outputAt_0 rfl rfl ?_
  refine jk_iconst (q := 2) dL_outputAt_1 rfl ?_
  refine jk_aload_n (q := 3) dL_outputAt_2 rfl rfl ?_
  refine jk_iload_n (q := 4) dL_outputAt_3 rfl rfl ?_
  refine jk_callVC (q := 7) (k := 12) (As := [jI p0]) K jm_X12_outputAt jw_1709 rfl hx rfl rfl rfl (Nat.le_refl _) (Nat.le_refl _) dL_outputAt_4 rfl (fun v' n' t' σ' ρ' hq => ?_) (fun E n' t' σ' ρ' hx9 => ?_)
  · obtain ⟨⟨v, rfl⟩, hto⟩ := hQ _ _ _ _ _ hq
    simp only [Option.toList_some, List.cons_append, List.nil_append]
    refine jk_i2lw (q := 8) dL_outputAt_7 rfl ?_
    refine jk_lastR (q := 9) (by first | exact hto | exact hx) (by rfl) (by first | decide | omega) dL_outputAt_8 rfl ?_
    refine jk_goto (q := 15) dL_outputAt_9 rfl ?_
    refine jk_iconst (q := 16) dL_outputAt_15 rfl ?_
    exact jk_iret rfl dL_outputAt_16 (by exact Or.inl ⟨v, σ', hq, rfl, rfl⟩)
  · obtain rfl := hX _ _ _ _ _ hx9
    · refine ⟨[], ⟨0, 9, 12, 19⟩, [], "java/lang/IndexOutOfBoundsException", rfl, (fun z hz => absurd hz List.not_mem_nil), rfl, by decide, jw_973, jw_593, fun a => ?_⟩
      refine jk_astore3 (q := 13) dL_outputAt_12 rfl rfl rfl ?_
      refine jk_iconst (q := 14) dL_outputAt_13 rfl ?_
      exact jk_iret rfl dL_outputAt_14 (by exact Or.inr ⟨0, by decide, hx9, rfl⟩)
abbrev mL_type : jk_M := ("LevelingNetworkLaw", cL_type, 4, (some FieldType.int), tableOf [(0, 9, 12, 21), (0, 9, 15, 13)], false, 10)
theorem jm_L_type : jk_mH yL_type mL_type [(0, 9, 12, 21), (0, 9, 15, 13)] 3 := ⟨⟨jw_1726, jw_0, ⟨by decide +kernel, by decide +kernel⟩, by decide +kernel, by decide +kernel, rfl, by decide, fun h => absurd h (by decide), rfl⟩, jw_1725⟩
theorem w_type {G : jk_G} {n : Nat} {t : jk_T} {σ : jk_I} {ρ : jk_P} {x o mc ms : Nat} {p0 : Int} {Q1 : jk_Q} {X1 : jk_X} (hzn : zn_ok G) (hx : t x = some (.inr 12)) (K : jk_K G yX12_type mX12_type mc ms [.ref x, jI p0] n t σ ρ Q1 X1) (hQ : ∀ v' n' t' σ' ρ', Q1 v' n' t' σ' ρ' → (∃ v, v' = some (jI v)) ∧ t' o = some (.inl (.long, 1))) (hX : ∀ E n' t' σ' ρ', X1 E n' t' σ' ρ' → E = "java/lang/IllegalArgumentException" ∨ E = "java/lang/IllegalStateException") : jk_KH G yL_type mL_type [(0, 9, 12, 21), (0, 9, 15, 13)] mc ms [.ref x, jI p0, .ref o] n t σ ρ (wQ o ["java/lang/IllegalArgumentException", "java/lang/IllegalStateException"] Q1 X1) jk_no := by
  refine jk_entryH (ls := [some (.ref x), some (jI p0), some (.ref o), none]) jm_L_type rfl rfl rfl ?_
  refine jk_aload_n (q := 1) dL_type_0 rfl rfl ?_
  refine jk_iconst (q := 2) dL_type_1 rfl ?_
  refine jk_aload_n (q := 3) dL_type_2 rfl rfl ?_
  refine jk_iload_n (q := 4) dL_type_3 rfl rfl ?_
  refine jk_callVC (q := 7) (k := 12) (As := [jI p0]) K jm_X12_type jw_1727 rfl hx rfl rfl rfl (Nat.le_refl _) (Nat.le_refl _) dL_type_4 rfl (fun v' n' t' σ' ρ' hq => ?_) (fun E n' t' σ' ρ' hx9 => ?_)
  · obtain ⟨⟨v, rfl⟩, hto⟩ := hQ _ _ _ _ _ hq
    simp only [Option.toList_some, List.cons_append, List.nil_append]
    refine jk_i2lw (q := 8) dL_type_7 rfl ?_
    refine jk_lastR (q := 9) (by first | exact hto | exact hx) (by rfl) (by first | decide | omega) dL_type_8 rfl ?_
    refine jk_goto (q := 18) dL_type_9 rfl ?_
    refine jk_iconst (q := 19) dL_type_18 rfl ?_
    exact jk_iret rfl dL_type_19 (by exact Or.inl ⟨v, σ', hq, rfl, rfl⟩)
  · rcases hX _ _ _ _ _ hx9 with rfl | rfl
    · refine ⟨[], ⟨0, 9, 12, 21⟩, [⟨0, 9, 15, 13⟩], "java/lang/IllegalArgumentException", rfl, (fun z hz => absurd hz List.not_mem_nil), rfl, by decide, jw_994, jw_665, fun a => ?_⟩
      refine jk_astore3 (q := 13) dL_type_12 rfl rfl rfl ?_
      refine jk_iconst (q := 14) dL_type_13 rfl ?_
      exact jk_iret rfl dL_type_14 (by exact Or.inr ⟨0, by decide, hx9, rfl⟩)
    · refine ⟨[⟨0, 9, 12, 21⟩], ⟨0, 9, 15, 13⟩, [], "java/lang/IllegalStateException", rfl, (fun z hz => by
        rcases List.mem_cons.mp hz with rfl | hz
        · exact ⟨by decide, "java/lang/IllegalArgumentException", jw_994, fun s h => (hzn s h).2.2.2.2.2.1⟩
        exact absurd hz List.not_mem_nil), rfl, by decide, jw_963, jw_681, fun a => ?_⟩
      refine jk_astore3 (q := 16) dL_type_15 rfl rfl rfl ?_
      refine jk_iconst (q := 17) dL_type_16 rfl ?_
      exact jk_iret rfl dL_type_17 (by exact Or.inr ⟨1, by decide, hx9, rfl⟩)
abbrev mL_runScript : jk_M := ("LevelingNetworkLaw", cL_runScript, 3, (some FieldType.int), tableOf [(0, 8, 11, 21), (0, 8, 14, 13)], false, 20)
theorem jm_L_runScript : jk_mH yL_runScript mL_runScript [(0, 8, 11, 21), (0, 8, 14, 13)] 2 := ⟨⟨jw_1739, jw_0, ⟨by decide +kernel, by decide +kernel⟩, by decide +kernel, by decide +kernel, rfl, by decide, fun h => absurd h (by decide), rfl⟩, jw_1738⟩
theorem w_runScript {G : jk_G} {n : Nat} {t : jk_T} {σ : jk_I} {ρ : jk_P} {x o mc ms : Nat} {Q1 : jk_Q} {X1 : jk_X} (hzn : zn_ok G) (hx : t x = some (.inr 12)) (K : jk_K G yX12_runScript mX12_runScript mc ms [.ref x] n t σ ρ Q1 X1) (hQ : ∀ v' n' t' σ' ρ', Q1 v' n' t' σ' ρ' → (∃ v, v' = some (jI v)) ∧ t' o = some (.inl (.long, 1))) (hX : ∀ E n' t' σ' ρ', X1 E n' t' σ' ρ' → E = "java/lang/IllegalArgumentException" ∨ E = "java/lang/IllegalStateException") : jk_KH G yL_runScript mL_runScript [(0, 8, 11, 21), (0, 8, 14, 13)] mc ms [.ref x, .ref o] n t σ ρ (wQ o ["java/lang/IllegalArgumentException", "java/lang/IllegalStateException"] Q1 X1) jk_no := by
  refine jk_entryH (ls := [some (.ref x), some (.ref o), none]) jm_L_runScript rfl rfl rfl ?_
  refine jk_aload_n (q := 1) dL_runScript_0 rfl rfl ?_
  refine jk_iconst (q := 2) dL_runScript_1 rfl ?_
  refine jk_aload_n (q := 3) dL_runScript_2 rfl rfl ?_
  refine jk_callVC (q := 6) (k := 12) (As := []) K jm_X12_runScript jw_1740 rfl hx rfl rfl rfl (Nat.le_refl _) (Nat.le_refl _) dL_runScript_3 rfl (fun v' n' t' σ' ρ' hq => ?_) (fun E n' t' σ' ρ' hx9 => ?_)
  · obtain ⟨⟨v, rfl⟩, hto⟩ := hQ _ _ _ _ _ hq
    simp only [Option.toList_some, List.cons_append, List.nil_append]
    refine jk_i2lw (q := 7) dL_runScript_6 rfl ?_
    refine jk_lastR (q := 8) (by first | exact hto | exact hx) (by rfl) (by first | decide | omega) dL_runScript_7 rfl ?_
    refine jk_goto (q := 17) dL_runScript_8 rfl ?_
    refine jk_iconst (q := 18) dL_runScript_17 rfl ?_
    exact jk_iret rfl dL_runScript_18 (by exact Or.inl ⟨v, σ', hq, rfl, rfl⟩)
  · rcases hX _ _ _ _ _ hx9 with rfl | rfl
    · refine ⟨[], ⟨0, 8, 11, 21⟩, [⟨0, 8, 14, 13⟩], "java/lang/IllegalArgumentException", rfl, (fun z hz => absurd hz List.not_mem_nil), rfl, by decide, jw_994, jw_665, fun a => ?_⟩
      refine jk_astore2 (q := 12) dL_runScript_11 rfl rfl rfl ?_
      refine jk_iconst (q := 13) dL_runScript_12 rfl ?_
      exact jk_iret rfl dL_runScript_13 (by exact Or.inr ⟨0, by decide, hx9, rfl⟩)
    · refine ⟨[⟨0, 8, 11, 21⟩], ⟨0, 8, 14, 13⟩, [], "java/lang/IllegalStateException", rfl, (fun z hz => by
        rcases List.mem_cons.mp hz with rfl | hz
        · exact ⟨by decide, "java/lang/IllegalArgumentException", jw_994, fun s h => (hzn s h).2.2.2.2.2.1⟩
        exact absurd hz List.not_mem_nil), rfl, by decide, jw_963, jw_681, fun a => ?_⟩
      refine jk_astore2 (q := 15) dL_runScript_14 rfl rfl rfl ?_
      refine jk_iconst (q := 16) dL_runScript_15 rfl ?_
      exact jk_iret rfl dL_runScript_16 (by exact Or.inr ⟨1, by decide, hx9, rfl⟩)
abbrev mL_errorPosition : jk_M := ("LevelingNetworkLaw", cL_errorPosition, 3, (some FieldType.int), tableOf [(0, 8, 11, 43)], false, 10)
theorem jm_L_errorPosition : jk_mH yL_errorPosition mL_errorPosition [(0, 8, 11, 43)] 2 := ⟨⟨jw_1808, jw_0, ⟨by decide +kernel, by decide +kernel⟩, by decide +kernel, by decide +kernel, rfl, by decide, fun h => absurd h (by decide), rfl⟩, jw_1807⟩
theorem w_errorPosition {G : jk_G} {n : Nat} {t : jk_T} {σ : jk_I} {ρ : jk_P} {x o mc ms : Nat} {Q1 : jk_Q} {X1 : jk_X} (hzn : zn_ok G) (hx : t x = some (.inr 12)) (K : jk_K G yX12_errorPosition mX12_errorPosition mc ms [.ref x] n t σ ρ Q1 X1) (hQ : ∀ v' n' t' σ' ρ', Q1 v' n' t' σ' ρ' → (∃ v, v' = some (jI v)) ∧ t' o = some (.inl (.long, 1))) (hX : ∀ E n' t' σ' ρ', X1 E n' t' σ' ρ' → E = "java/util/NoSuchElementException") : jk_KH G yL_errorPosition mL_errorPosition [(0, 8, 11, 43)] mc ms [.ref x, .ref o] n t σ ρ (wQ o ["java/util/NoSuchElementException"] Q1 X1) jk_no := by
  refine jk_entryH (ls := [some (.ref x), some (.ref o), none]) jm_L_errorPosition rfl rfl rfl ?_
  refine jk_aload_n (q := 1) dL_errorPosition_0 rfl rfl ?_
  refine jk_iconst (q := 2) dL_errorPosition_1 rfl ?_
  refine jk_aload_n (q := 3) dL_errorPosition_2 rfl rfl ?_
  refine jk_callVC (q := 6) (k := 12) (As := []) K jm_X12_errorPosition jw_1809 rfl hx rfl rfl rfl (Nat.le_refl _) (Nat.le_refl _) dL_errorPosition_3 rfl (fun v' n' t' σ' ρ' hq => ?_) (fun E n' t' σ' ρ' hx9 => ?_)
  · obtain ⟨⟨v, rfl⟩, hto⟩ := hQ _ _ _ _ _ hq
    simp only [Option.toList_some, List.cons_append, List.nil_append]
    refine jk_i2lw (q := 7) dL_errorPosition_6 rfl ?_
    refine jk_lastR (q := 8) (by first | exact hto | exact hx) (by rfl) (by first | decide | omega) dL_errorPosition_7 rfl ?_
    refine jk_goto (q := 14) dL_errorPosition_8 rfl ?_
    refine jk_iconst (q := 15) dL_errorPosition_14 rfl ?_
    exact jk_iret rfl dL_errorPosition_15 (by exact Or.inl ⟨v, σ', hq, rfl, rfl⟩)
  · obtain rfl := hX _ _ _ _ _ hx9
    · refine ⟨[], ⟨0, 8, 11, 43⟩, [], "java/util/NoSuchElementException", rfl, (fun z hz => absurd hz List.not_mem_nil), rfl, by decide, jw_1049, jw_697, fun a => ?_⟩
      refine jk_astore2 (q := 12) dL_errorPosition_11 rfl rfl rfl ?_
      refine jk_iconst (q := 13) dL_errorPosition_12 rfl ?_
      exact jk_iret rfl dL_errorPosition_13 (by exact Or.inr ⟨0, by decide, hx9, rfl⟩)
abbrev mL_failedCommand : jk_M := ("LevelingNetworkLaw", cL_failedCommand, 3, (some FieldType.int), tableOf [(0, 8, 11, 43)], false, 10)
theorem jm_L_failedCommand : jk_mH yL_failedCommand mL_failedCommand [(0, 8, 11, 43)] 2 := ⟨⟨jw_1816, jw_0, ⟨by decide +kernel, by decide +kernel⟩, by decide +kernel, by decide +kernel, rfl, by decide, fun h => absurd h (by decide), rfl⟩, jw_1815⟩
theorem w_failedCommand {G : jk_G} {n : Nat} {t : jk_T} {σ : jk_I} {ρ : jk_P} {x o mc ms : Nat} {Q1 : jk_Q} {X1 : jk_X} (hzn : zn_ok G) (hx : t x = some (.inr 12)) (K : jk_K G yX12_failedCommand mX12_failedCommand mc ms [.ref x] n t σ ρ Q1 X1) (hQ : ∀ v' n' t' σ' ρ', Q1 v' n' t' σ' ρ' → (∃ v, v' = some (jI v)) ∧ t' o = some (.inl (.long, 1))) (hX : ∀ E n' t' σ' ρ', X1 E n' t' σ' ρ' → E = "java/util/NoSuchElementException") : jk_KH G yL_failedCommand mL_failedCommand [(0, 8, 11, 43)] mc ms [.ref x, .ref o] n t σ ρ (wQ o ["java/util/NoSuchElementException"] Q1 X1) jk_no := by
  refine jk_entryH (ls := [some (.ref x), some (.ref o), none]) jm_L_failedCommand rfl rfl rfl ?_
  refine jk_aload_n (q := 1) dL_failedCommand_0 rfl rfl ?_
  refine jk_iconst (q := 2) dL_failedCommand_1 rfl ?_
  refine jk_aload_n (q := 3) dL_failedCommand_2 rfl rfl ?_
  refine jk_callVC (q := 6) (k := 12) (As := []) K jm_X12_failedCommand jw_1817 rfl hx rfl rfl rfl (Nat.le_refl _) (Nat.le_refl _) dL_failedCommand_3 rfl (fun v' n' t' σ' ρ' hq => ?_) (fun E n' t' σ' ρ' hx9 => ?_)
  · obtain ⟨⟨v, rfl⟩, hto⟩ := hQ _ _ _ _ _ hq
    simp only [Option.toList_some, List.cons_append, List.nil_append]
    refine jk_i2lw (q := 7) dL_failedCommand_6 rfl ?_
    refine jk_lastR (q := 8) (by first | exact hto | exact hx) (by rfl) (by first | decide | omega) dL_failedCommand_7 rfl ?_
    refine jk_goto (q := 14) dL_failedCommand_8 rfl ?_
    refine jk_iconst (q := 15) dL_failedCommand_14 rfl ?_
    exact jk_iret rfl dL_failedCommand_15 (by exact Or.inl ⟨v, σ', hq, rfl, rfl⟩)
  · obtain rfl := hX _ _ _ _ _ hx9
    · refine ⟨[], ⟨0, 8, 11, 43⟩, [], "java/util/NoSuchElementException", rfl, (fun z hz => absurd hz List.not_mem_nil), rfl, by decide, jw_1049, jw_697, fun a => ?_⟩
      refine jk_astore2 (q := 12) dL_failedCommand_11 rfl rfl rfl ?_
      refine jk_iconst (q := 13) dL_failedCommand_12 rfl ?_
      exact jk_iret rfl dL_failedCommand_13 (by exact Or.inr ⟨0, by decide, hx9, rfl⟩)
abbrev mL_undo : jk_M := ("LevelingNetworkLaw", cL_undo, 3, (some FieldType.int), tableOf [(0, 8, 11, 43)], false, 10)
theorem jm_L_undo : jk_mH yL_undo mL_undo [(0, 8, 11, 43)] 2 := ⟨⟨jw_1824, jw_0, ⟨by decide +kernel, by decide +kernel⟩, by decide +kernel, by decide +kernel, rfl, by decide, fun h => absurd h (by decide), rfl⟩, jw_1823⟩
theorem w_undo {G : jk_G} {n : Nat} {t : jk_T} {σ : jk_I} {ρ : jk_P} {x o mc ms : Nat} {Q1 : jk_Q} {X1 : jk_X} (hzn : zn_ok G) (hx : t x = some (.inr 12)) (K : jk_K G yX12_undo mX12_undo mc ms [.ref x] n t σ ρ Q1 X1) (hQ : ∀ v' n' t' σ' ρ', Q1 v' n' t' σ' ρ' → (∃ v, v' = some (jI v)) ∧ t' o = some (.inl (.long, 1))) (hX : ∀ E n' t' σ' ρ', X1 E n' t' σ' ρ' → E = "java/util/NoSuchElementException") : jk_KH G yL_undo mL_undo [(0, 8, 11, 43)] mc ms [.ref x, .ref o] n t σ ρ (wQ o ["java/util/NoSuchElementException"] Q1 X1) jk_no := by
  refine jk_entryH (ls := [some (.ref x), some (.ref o), none]) jm_L_undo rfl rfl rfl ?_
  refine jk_aload_n (q := 1) dL_undo_0 rfl rfl ?_
  refine jk_iconst (q := 2) dL_undo_1 rfl ?_
  refine jk_aload_n (q := 3) dL_undo_2 rfl rfl ?_
  refine jk_callVC (q := 6) (k := 12) (As := []) K jm_X12_undo jw_1825 rfl hx rfl rfl rfl (Nat.le_refl _) (Nat.le_refl _) dL_undo_3 rfl (fun v' n' t' σ' ρ' hq => ?_) (fun E n' t' σ' ρ' hx9 => ?_)
  · obtain ⟨⟨v, rfl⟩, hto⟩ := hQ _ _ _ _ _ hq
    simp only [Option.toList_some, List.cons_append, List.nil_append]
    refine jk_i2lw (q := 7) dL_undo_6 rfl ?_
    refine jk_lastR (q := 8) (by first | exact hto | exact hx) (by rfl) (by first | decide | omega) dL_undo_7 rfl ?_
    refine jk_goto (q := 14) dL_undo_8 rfl ?_
    refine jk_iconst (q := 15) dL_undo_14 rfl ?_
    exact jk_iret rfl dL_undo_15 (by exact Or.inl ⟨v, σ', hq, rfl, rfl⟩)
  · obtain rfl := hX _ _ _ _ _ hx9
    · refine ⟨[], ⟨0, 8, 11, 43⟩, [], "java/util/NoSuchElementException", rfl, (fun z hz => absurd hz List.not_mem_nil), rfl, by decide, jw_1049, jw_697, fun a => ?_⟩
      refine jk_astore2 (q := 12) dL_undo_11 rfl rfl rfl ?_
      refine jk_iconst (q := 13) dL_undo_12 rfl ?_
      exact jk_iret rfl dL_undo_13 (by exact Or.inr ⟨0, by decide, hx9, rfl⟩)
abbrev mL_restore : jk_M := ("LevelingNetworkLaw", cL_restore, 3, (some FieldType.int), tableOf [(0, 8, 11, 13)], false, 10)
theorem jm_L_restore : jk_mH yL_restore mL_restore [(0, 8, 11, 13)] 2 := ⟨⟨jw_1836, jw_0, ⟨by decide +kernel, by decide +kernel⟩, by decide +kernel, by decide +kernel, rfl, by decide, fun h => absurd h (by decide), rfl⟩, jw_1835⟩
theorem w_restore {G : jk_G} {n : Nat} {t : jk_T} {σ : jk_I} {ρ : jk_P} {x o mc ms : Nat} {Q1 : jk_Q} {X1 : jk_X} (hzn : zn_ok G) (hx : t x = some (.inr 12)) (K : jk_K G yX12_restore mX12_restore mc ms [.ref x] n t σ ρ Q1 X1) (hQ : ∀ v' n' t' σ' ρ', Q1 v' n' t' σ' ρ' → (∃ v, v' = some (jI v)) ∧ t' o = some (.inl (.long, 1))) (hX : ∀ E n' t' σ' ρ', X1 E n' t' σ' ρ' → E = "java/lang/IllegalStateException") : jk_KH G yL_restore mL_restore [(0, 8, 11, 13)] mc ms [.ref x, .ref o] n t σ ρ (wQ o ["java/lang/IllegalStateException"] Q1 X1) jk_no := by
  refine jk_entryH (ls := [some (.ref x), some (.ref o), none]) jm_L_restore rfl rfl rfl ?_
  refine jk_aload_n (q := 1) dL_restore_0 rfl rfl ?_
  refine jk_iconst (q := 2) dL_restore_1 rfl ?_
  refine jk_aload_n (q := 3) dL_restore_2 rfl rfl ?_
  refine jk_callVC (q := 6) (k := 12) (As := []) K jm_X12_restore jw_1837 rfl hx rfl rfl rfl (Nat.le_refl _) (Nat.le_refl _) dL_restore_3 rfl (fun v' n' t' σ' ρ' hq => ?_) (fun E n' t' σ' ρ' hx9 => ?_)
  · obtain ⟨⟨v, rfl⟩, hto⟩ := hQ _ _ _ _ _ hq
    simp only [Option.toList_some, List.cons_append, List.nil_append]
    refine jk_i2lw (q := 7) dL_restore_6 rfl ?_
    refine jk_lastR (q := 8) (by first | exact hto | exact hx) (by rfl) (by first | decide | omega) dL_restore_7 rfl ?_
    refine jk_goto (q := 14) dL_restore_8 rfl ?_
    refine jk_iconst (q := 15) dL_restore_14 rfl ?_
    exact jk_iret rfl dL_restore_15 (by exact Or.inl ⟨v, σ', hq, rfl, rfl⟩)
  · obtain rfl := hX _ _ _ _ _ hx9
    · refine ⟨[], ⟨0, 8, 11, 13⟩, [], "java/lang/IllegalStateException", rfl, (fun z hz => absurd hz List.not_mem_nil), rfl, by decide, jw_963, jw_681, fun a => ?_⟩
      refine jk_astore2 (q := 12) dL_restore_11 rfl rfl rfl ?_
      refine jk_iconst (q := 13) dL_restore_12 rfl ?_
      exact jk_iret rfl dL_restore_13 (by exact Or.inr ⟨0, by decide, hx9, rfl⟩)
end L1
