section E2
theorem ln_e1 {c v : Int} {α : Type} {a b : α} (h : cl_has c v = true) : (if md_in v 0 (c - 1) = false then a else b) = b := by rw [cl_mi, if_neg (by rw [h]; decide)]
theorem ln_e0 {c v : Int} {α : Type} {a b : α} (h : cl_has c v = false) : (if md_in v 0 (c - 1) = false then a else b) = a := by rw [cl_mi, if_pos h]
theorem ln_dat_fix {g : Int → Int} {p : Int} (hp : 0 ≤ p ∧ p < g 0) (hf : g (4 + p) = 1) : md_dat g (md_Ro g) p ≠ -1 := fun h => by
  have := cm_fnd_none _ h p.toNat (by omega)
  rw [show ((p.toNat : Nat) : Int) = p by omega] at this
  unfold md_datP at this
  simp [hf] at this
theorem c_X12_benchmarkCount {G : jk_G} {n : Nat} {t : jk_T} {σ : jk_I} {ρ : jk_P} {x : Nat} {g : Int → Int} {B : Int}  (hz : zz_ok G) (hx : zx_ok G) (hln : ln_at t ρ x) (hr : cl_rel σ (x + 2) g) (ha : md_all B g) (hnn : cl_nn σ (x + 2)) (hsi : md_sit g)  : jk_K G yX12_benchmarkCount mX12_benchmarkCount 6 36 [.ref x] n t σ ρ (ln_RQ x (0) (jI (g 0)) σ n t ρ) (ln_RX x (0) (ex_1 "") σ n t ρ) := by
  obtain ⟨hx0, ⟨hx1, hx2, hx3, hx4, hx5, hx6, hx7, hx8, hx9, hx10, hx11, hx12⟩, hB4, hSN, hH, hhe, hba, hch, hsc⟩ := id hln
  obtain ⟨hcc, hwa, hsh, hwy, hyc⟩ := id hch
  obtain ⟨-, -, hfo, hfw⟩ := id hwa
  obtain ⟨-, -, -, -, hs, hsf⟩ := id hfo
  have hi := ha.1
  have hw := ha.2.1
  have hxx := ha.2.2.1
  have i0 := hi.1
  have i1 := hi.2.1
  have i2 := hi.2.2.1
  have i3 := hi.2.2.2.1
  obtain ⟨q0, q1, q2, q3⟩ := hr.1
  have hf0 : ln_fr x σ σ := fun _ _ => rfl
  refine jk_entryB (ls := [some (.ref x)]) jm_X12_benchmarkCount.1 rfl rfl rfl ?_
  refine jk_aload_n (q := 1) dX12_benchmarkCount_0 rfl rfl ?_
  refine jk_getA (q := 4) (k := 12) 0 0 rfl (by first | exact hx0 | exact hs.1 | exact hs.2.1 _ _ rfl | exact hfo.1 | exact hfo.2.1 _ _ rfl | exact hwa.1.1 | exact hwa.1.2.1 | exact hwa.1.2.2 | exact hsh.1.1 | exact hsh.1.2.1 | exact hhe.1.1 | exact hba.1.1 | exact hcc.1 | exact hH.1 | exact hsc.1.1 | exact hB4.1 | exact hSN.1 | assumption) (by first | assumption | exact hs.2.2.1 _ _ rfl | exact hfo.2.2.1 _ _ rfl | exact hwa.2.1.2.2.1 | exact hsh.2.1.2.1) rfl rfl jw_375 dX12_benchmarkCount_1 rfl ?_
  refine jk_getIR (q := 7) (k := 9) 0 0 rfl (by first | exact hx0 | exact hs.1 | exact hs.2.1 _ _ rfl | exact hfo.1 | exact hfo.2.1 _ _ rfl | exact hwa.1.1 | exact hwa.1.2.1 | exact hwa.1.2.2 | exact hsh.1.1 | exact hsh.1.2.1 | exact hhe.1.1 | exact hba.1.1 | exact hcc.1 | exact hH.1 | exact hsc.1.1 | exact hB4.1 | exact hSN.1 | assumption) (by first | exact jk_row_same _ _ _ | ((repeat rewrite [jk_row_ne _ _ (by omega)]); first | exact jk_row_same _ _ _ | rfl)) rfl rfl jw_58 dX12_benchmarkCount_4 rfl ?_
  rw [q0]
  exact jk_iret rfl dX12_benchmarkCount_7 (by exact ⟨rfl, rfl, rfl, rfl, rfl, hf0⟩)
theorem c_X12_lineCount {G : jk_G} {n : Nat} {t : jk_T} {σ : jk_I} {ρ : jk_P} {x : Nat} {g : Int → Int} {B : Int}  (hz : zz_ok G) (hx : zx_ok G) (hln : ln_at t ρ x) (hr : cl_rel σ (x + 2) g) (ha : md_all B g) (hnn : cl_nn σ (x + 2)) (hsi : md_sit g)  : jk_K G yX12_lineCount mX12_lineCount 6 36 [.ref x] n t σ ρ (ln_RQ x (0) (jI (g 1)) σ n t ρ) (ln_RX x (0) (ex_1 "") σ n t ρ) := by
  obtain ⟨hx0, ⟨hx1, hx2, hx3, hx4, hx5, hx6, hx7, hx8, hx9, hx10, hx11, hx12⟩, hB4, hSN, hH, hhe, hba, hch, hsc⟩ := id hln
  obtain ⟨hcc, hwa, hsh, hwy, hyc⟩ := id hch
  obtain ⟨-, -, hfo, hfw⟩ := id hwa
  obtain ⟨-, -, -, -, hs, hsf⟩ := id hfo
  have hi := ha.1
  have hw := ha.2.1
  have hxx := ha.2.2.1
  have i0 := hi.1
  have i1 := hi.2.1
  have i2 := hi.2.2.1
  have i3 := hi.2.2.2.1
  obtain ⟨q0, q1, q2, q3⟩ := hr.1
  have hf0 : ln_fr x σ σ := fun _ _ => rfl
  refine jk_entryB (ls := [some (.ref x)]) jm_X12_lineCount.1 rfl rfl rfl ?_
  refine jk_aload_n (q := 1) dX12_lineCount_0 rfl rfl ?_
  refine jk_getA (q := 4) (k := 12) 0 0 rfl (by first | exact hx0 | exact hs.1 | exact hs.2.1 _ _ rfl | exact hfo.1 | exact hfo.2.1 _ _ rfl | exact hwa.1.1 | exact hwa.1.2.1 | exact hwa.1.2.2 | exact hsh.1.1 | exact hsh.1.2.1 | exact hhe.1.1 | exact hba.1.1 | exact hcc.1 | exact hH.1 | exact hsc.1.1 | exact hB4.1 | exact hSN.1 | assumption) (by first | assumption | exact hs.2.2.1 _ _ rfl | exact hfo.2.2.1 _ _ rfl | exact hwa.2.1.2.2.1 | exact hsh.2.1.2.1) rfl rfl jw_375 dX12_lineCount_1 rfl ?_
  refine jk_getIR (q := 7) (k := 9) 3 3 rfl (by first | exact hx0 | exact hs.1 | exact hs.2.1 _ _ rfl | exact hfo.1 | exact hfo.2.1 _ _ rfl | exact hwa.1.1 | exact hwa.1.2.1 | exact hwa.1.2.2 | exact hsh.1.1 | exact hsh.1.2.1 | exact hhe.1.1 | exact hba.1.1 | exact hcc.1 | exact hH.1 | exact hsc.1.1 | exact hB4.1 | exact hSN.1 | assumption) (by first | exact jk_row_same _ _ _ | ((repeat rewrite [jk_row_ne _ _ (by omega)]); first | exact jk_row_same _ _ _ | rfl)) rfl rfl jw_72 dX12_lineCount_4 rfl ?_
  rw [q1]
  exact jk_iret rfl dX12_lineCount_7 (by exact ⟨rfl, rfl, rfl, rfl, rfl, hf0⟩)
theorem c_X12_profileCount {G : jk_G} {n : Nat} {t : jk_T} {σ : jk_I} {ρ : jk_P} {x : Nat} {g : Int → Int} {B : Int}  (hz : zz_ok G) (hx : zx_ok G) (hln : ln_at t ρ x) (hr : cl_rel σ (x + 2) g) (ha : md_all B g) (hnn : cl_nn σ (x + 2)) (hsi : md_sit g)  : jk_K G yX12_profileCount mX12_profileCount 6 36 [.ref x] n t σ ρ (ln_RQ x (0) (jI (g 2)) σ n t ρ) (ln_RX x (0) (ex_1 "") σ n t ρ) := by
  obtain ⟨hx0, ⟨hx1, hx2, hx3, hx4, hx5, hx6, hx7, hx8, hx9, hx10, hx11, hx12⟩, hB4, hSN, hH, hhe, hba, hch, hsc⟩ := id hln
  obtain ⟨hcc, hwa, hsh, hwy, hyc⟩ := id hch
  obtain ⟨-, -, hfo, hfw⟩ := id hwa
  obtain ⟨-, -, -, -, hs, hsf⟩ := id hfo
  have hi := ha.1
  have hw := ha.2.1
  have hxx := ha.2.2.1
  have i0 := hi.1
  have i1 := hi.2.1
  have i2 := hi.2.2.1
  have i3 := hi.2.2.2.1
  obtain ⟨q0, q1, q2, q3⟩ := hr.1
  have hf0 : ln_fr x σ σ := fun _ _ => rfl
  refine jk_entryB (ls := [some (.ref x)]) jm_X12_profileCount.1 rfl rfl rfl ?_
  refine jk_aload_n (q := 1) dX12_profileCount_0 rfl rfl ?_
  refine jk_getA (q := 4) (k := 12) 0 0 rfl (by first | exact hx0 | exact hs.1 | exact hs.2.1 _ _ rfl | exact hfo.1 | exact hfo.2.1 _ _ rfl | exact hwa.1.1 | exact hwa.1.2.1 | exact hwa.1.2.2 | exact hsh.1.1 | exact hsh.1.2.1 | exact hhe.1.1 | exact hba.1.1 | exact hcc.1 | exact hH.1 | exact hsc.1.1 | exact hB4.1 | exact hSN.1 | assumption) (by first | assumption | exact hs.2.2.1 _ _ rfl | exact hfo.2.2.1 _ _ rfl | exact hwa.2.1.2.2.1 | exact hsh.2.1.2.1) rfl rfl jw_375 dX12_profileCount_1 rfl ?_
  refine jk_getIR (q := 7) (k := 9) 12 12 rfl (by first | exact hx0 | exact hs.1 | exact hs.2.1 _ _ rfl | exact hfo.1 | exact hfo.2.1 _ _ rfl | exact hwa.1.1 | exact hwa.1.2.1 | exact hwa.1.2.2 | exact hsh.1.1 | exact hsh.1.2.1 | exact hhe.1.1 | exact hba.1.1 | exact hcc.1 | exact hH.1 | exact hsc.1.1 | exact hB4.1 | exact hSN.1 | assumption) (by first | exact jk_row_same _ _ _ | ((repeat rewrite [jk_row_ne _ _ (by omega)]); first | exact jk_row_same _ _ _ | rfl)) rfl rfl jw_107 dX12_profileCount_4 rfl ?_
  rw [q2]
  exact jk_iret rfl dX12_profileCount_7 (by exact ⟨rfl, rfl, rfl, rfl, rfl, hf0⟩)
theorem c_X12_waterLevel {G : jk_G} {n : Nat} {t : jk_T} {σ : jk_I} {ρ : jk_P} {x : Nat} {g : Int → Int} {B : Int}  (hz : zz_ok G) (hx : zx_ok G) (hln : ln_at t ρ x) (hr : cl_rel σ (x + 2) g) (ha : md_all B g) (hnn : cl_nn σ (x + 2)) (hsi : md_sit g)  : jk_K G yX12_waterLevel mX12_waterLevel 6 36 [.ref x] n t σ ρ (ln_RQ x (0) (jI (g 3)) σ n t ρ) (ln_RX x (0) (ex_1 "") σ n t ρ) := by
  obtain ⟨hx0, ⟨hx1, hx2, hx3, hx4, hx5, hx6, hx7, hx8, hx9, hx10, hx11, hx12⟩, hB4, hSN, hH, hhe, hba, hch, hsc⟩ := id hln
  obtain ⟨hcc, hwa, hsh, hwy, hyc⟩ := id hch
  obtain ⟨-, -, hfo, hfw⟩ := id hwa
  obtain ⟨-, -, -, -, hs, hsf⟩ := id hfo
  have hi := ha.1
  have hw := ha.2.1
  have hxx := ha.2.2.1
  have i0 := hi.1
  have i1 := hi.2.1
  have i2 := hi.2.2.1
  have i3 := hi.2.2.2.1
  obtain ⟨q0, q1, q2, q3⟩ := hr.1
  have hf0 : ln_fr x σ σ := fun _ _ => rfl
  refine jk_entryB (ls := [some (.ref x)]) jm_X12_waterLevel.1 rfl rfl rfl ?_
  refine jk_aload_n (q := 1) dX12_waterLevel_0 rfl rfl ?_
  refine jk_getA (q := 4) (k := 12) 0 0 rfl (by first | exact hx0 | exact hs.1 | exact hs.2.1 _ _ rfl | exact hfo.1 | exact hfo.2.1 _ _ rfl | exact hwa.1.1 | exact hwa.1.2.1 | exact hwa.1.2.2 | exact hsh.1.1 | exact hsh.1.2.1 | exact hhe.1.1 | exact hba.1.1 | exact hcc.1 | exact hH.1 | exact hsc.1.1 | exact hB4.1 | exact hSN.1 | assumption) (by first | assumption | exact hs.2.2.1 _ _ rfl | exact hfo.2.2.1 _ _ rfl | exact hwa.2.1.2.2.1 | exact hsh.2.1.2.1) rfl rfl jw_375 dX12_waterLevel_1 rfl ?_
  refine jk_getIR (q := 7) (k := 9) 17 17 rfl (by first | exact hx0 | exact hs.1 | exact hs.2.1 _ _ rfl | exact hfo.1 | exact hfo.2.1 _ _ rfl | exact hwa.1.1 | exact hwa.1.2.1 | exact hwa.1.2.2 | exact hsh.1.1 | exact hsh.1.2.1 | exact hhe.1.1 | exact hba.1.1 | exact hcc.1 | exact hH.1 | exact hsc.1.1 | exact hB4.1 | exact hSN.1 | assumption) (by first | exact jk_row_same _ _ _ | ((repeat rewrite [jk_row_ne _ _ (by omega)]); first | exact jk_row_same _ _ _ | rfl)) rfl rfl jw_123 dX12_waterLevel_4 rfl ?_
  rw [q3]
  exact jk_iret rfl dX12_waterLevel_7 (by exact ⟨rfl, rfl, rfl, rfl, rfl, hf0⟩)
theorem c_X12_isFixed {G : jk_G} {n : Nat} {t : jk_T} {σ : jk_I} {ρ : jk_P} {x : Nat} {g : Int → Int} {B : Int} {p : Int} (hz : zz_ok G) (hx : zx_ok G) (hln : ln_at t ρ x) (hr : cl_rel σ (x + 2) g) (ha : md_all B g) (hnn : cl_nn σ (x + 2)) (hsi : md_sit g) (hp : jk_in p) : jk_K G yX12_isFixed mX12_isFixed 6 36 [.ref x, jI p] n t σ ρ (ln_RQ x ((md_q_fx g p).1) (jI (jB (md_q_fx g p).2)) σ n t ρ) (ln_RX x ((md_q_fx g p).1) (ex_1 "java/lang/IndexOutOfBoundsException") σ n t ρ) := by
  obtain ⟨hx0, ⟨hx1, hx2, hx3, hx4, hx5, hx6, hx7, hx8, hx9, hx10, hx11, hx12⟩, hB4, hSN, hH, hhe, hba, hch, hsc⟩ := id hln
  obtain ⟨hcc, hwa, hsh, hwy, hyc⟩ := id hch
  obtain ⟨-, -, hfo, hfw⟩ := id hwa
  obtain ⟨-, -, -, -, hs, hsf⟩ := id hfo
  have hi := ha.1
  have hw := ha.2.1
  have hxx := ha.2.2.1
  have i0 := hi.1
  have i1 := hi.2.1
  have i2 := hi.2.2.1
  have i3 := hi.2.2.2.1
  obtain ⟨q0, q1, q2, q3⟩ := hr.1
  have hf0 : ln_fr x σ σ := fun _ _ => rfl
  refine jk_entryB (ls := [some (.ref x), some (jI p)]) jm_X12_isFixed.1 rfl rfl rfl ?_
  refine jk_aload_n (q := 1) dX12_isFixed_0 rfl rfl ?_
  refine jk_iload_n (q := 2) dX12_isFixed_1 rfl rfl ?_
  refine jk_cV1g (q := 5) (c_X12_requireBenchmark hz hx hln hr ha hnn hsi hp) jm_X12_requireBenchmark jw_859 rfl (by first | exact hx0 | exact hs.1 | exact hs.2.1 _ _ rfl | exact hfo.1 | exact hfo.2.1 _ _ rfl | exact hwa.1.1 | exact hwa.1.2.1 | exact hwa.1.2.2 | exact hsh.1.1 | exact hsh.1.2.1 | exact hhe.1.1 | exact hba.1.1 | exact hcc.1 | exact hH.1 | exact hsc.1.1 | exact hB4.1 | exact hSN.1 | assumption) rfl rfl (by decide) (by decide) rfl dX12_isFixed_2 rfl (fun v' n' t' σ8 ρ' hq => ?_) (fun E n' t' σ' ρ' hx9 => by
            obtain ⟨rfl, hn9, rfl, rfl, zr, rfl⟩ := hx9
            exact ln_rx hn9 hf0 (by unfold md_q_fx; rw [ln_e0 zr]) (by decide) rfl)
  obtain ⟨rfl, hn9, ht9, hr9, zr, hss⟩ := hq
  replace hn9 := hn9.symm; replace ht9 := ht9.symm; replace hr9 := hr9.symm; subst hn9 ht9 hr9
  simp only [Option.toList_some, Option.toList_none, List.cons_append, List.nil_append, Nat.sub_zero]
  replace hss := hss.symm
  subst hss
  have hp9 := cl_hasT zr
  have b1 := (hr.2.1 p hp9).1
  have b2 := (md_inv_pt hi (p := p) ⟨by omega, by omega⟩).1
  refine jk_aload_n (q := 6) dX12_isFixed_5 rfl rfl ?_
  refine jk_getA (q := 9) (k := 12) 0 0 rfl (by first | exact hx0 | exact hs.1 | exact hs.2.1 _ _ rfl | exact hfo.1 | exact hfo.2.1 _ _ rfl | exact hwa.1.1 | exact hwa.1.2.1 | exact hwa.1.2.2 | exact hsh.1.1 | exact hsh.1.2.1 | exact hhe.1.1 | exact hba.1.1 | exact hcc.1 | exact hH.1 | exact hsc.1.1 | exact hB4.1 | exact hSN.1 | assumption) (by first | assumption | exact hs.2.2.1 _ _ rfl | exact hfo.2.2.1 _ _ rfl | exact hwa.2.1.2.2.1 | exact hsh.2.1.2.1) rfl rfl jw_375 dX12_isFixed_6 rfl ?_
  refine jk_getA (q := 12) (k := 9) 1 1 rfl (by first | exact hx0 | exact hs.1 | exact hs.2.1 _ _ rfl | exact hfo.1 | exact hfo.2.1 _ _ rfl | exact hwa.1.1 | exact hwa.1.2.1 | exact hwa.1.2.2 | exact hsh.1.1 | exact hsh.1.2.1 | exact hhe.1.1 | exact hba.1.1 | exact hcc.1 | exact hH.1 | exact hsc.1.1 | exact hB4.1 | exact hSN.1 | assumption) (by first | assumption | exact hs.2.2.1 _ _ rfl | exact hfo.2.2.1 _ _ rfl | exact hwa.2.1.2.2.1 | exact hsh.2.1.2.1) rfl rfl jw_62 dX12_isFixed_9 rfl ?_
  refine jk_iload_n (q := 13) dX12_isFixed_12 rfl rfl ?_
  refine jk_zaldR (q := 14) (by first | exact hx0 | exact hs.1 | exact hs.2.1 _ _ rfl | exact hfo.1 | exact hfo.2.1 _ _ rfl | exact hwa.1.1 | exact hwa.1.2.1 | exact hwa.1.2.2 | exact hsh.1.1 | exact hsh.1.2.1 | exact hhe.1.1 | exact hba.1.1 | exact hcc.1 | exact hH.1 | exact hsc.1.1 | exact hB4.1 | exact hSN.1 | assumption) (by first | exact jk_row_same _ _ _ | ((repeat rewrite [jk_row_ne _ _ (by omega)]); first | exact jk_row_same _ _ _ | rfl)) (by first | assumption | decide | omega | exact jB_01 _ | exact jB_in _ | exact ⟨by omega, by omega⟩) dX12_isFixed_13 rfl ?_
  rw [b1]
  exact jk_zret rfl (by first | assumption | decide | omega | exact jB_01 _ | exact jB_in _ | exact ⟨by omega, by omega⟩) dX12_isFixed_14 (by exact ln_rqB hf0 (by unfold md_q_fx; rw [ln_e1 zr]) (by rcases b2 with b2 | b2 <;> rw [b2] <;> rfl))
theorem c_X12_firstOf {G : jk_G} {n : Nat} {t : jk_T} {σ : jk_I} {ρ : jk_P} {x : Nat} {g : Int → Int} {B : Int} {p : Int} (hz : zz_ok G) (hx : zx_ok G) (hln : ln_at t ρ x) (hr : cl_rel σ (x + 2) g) (ha : md_all B g) (hnn : cl_nn σ (x + 2)) (hsi : md_sit g) (hp : jk_in p) : jk_K G yX12_firstOf mX12_firstOf 6 36 [.ref x, jI p] n t σ ρ (ln_RQ x ((md_q_firstOf g p).1) (jI (md_q_firstOf g p).2) σ n t ρ) (ln_RX x ((md_q_firstOf g p).1) (ex_1 "java/lang/IndexOutOfBoundsException") σ n t ρ) := by
  obtain ⟨hx0, ⟨hx1, hx2, hx3, hx4, hx5, hx6, hx7, hx8, hx9, hx10, hx11, hx12⟩, hB4, hSN, hH, hhe, hba, hch, hsc⟩ := id hln
  obtain ⟨hcc, hwa, hsh, hwy, hyc⟩ := id hch
  obtain ⟨-, -, hfo, hfw⟩ := id hwa
  obtain ⟨-, -, -, -, hs, hsf⟩ := id hfo
  have hi := ha.1
  have hw := ha.2.1
  have hxx := ha.2.2.1
  have i0 := hi.1
  have i1 := hi.2.1
  have i2 := hi.2.2.1
  have i3 := hi.2.2.2.1
  obtain ⟨q0, q1, q2, q3⟩ := hr.1
  have hf0 : ln_fr x σ σ := fun _ _ => rfl
  refine jk_entryB (ls := [some (.ref x), some (jI p)]) jm_X12_firstOf.1 rfl rfl rfl ?_
  refine jk_aload_n (q := 1) dX12_firstOf_0 rfl rfl ?_
  refine jk_iload_n (q := 2) dX12_firstOf_1 rfl rfl ?_
  refine jk_cV1g (q := 5) (c_X12_requireLine hz hx hln hr ha hnn hsi hp) jm_X12_requireLine jw_944 rfl (by first | exact hx0 | exact hs.1 | exact hs.2.1 _ _ rfl | exact hfo.1 | exact hfo.2.1 _ _ rfl | exact hwa.1.1 | exact hwa.1.2.1 | exact hwa.1.2.2 | exact hsh.1.1 | exact hsh.1.2.1 | exact hhe.1.1 | exact hba.1.1 | exact hcc.1 | exact hH.1 | exact hsc.1.1 | exact hB4.1 | exact hSN.1 | assumption) rfl rfl (by decide) (by decide) rfl dX12_firstOf_2 rfl (fun v' n' t' σ8 ρ' hq => ?_) (fun E n' t' σ' ρ' hx9 => by
            obtain ⟨rfl, hn9, rfl, rfl, zr, rfl⟩ := hx9
            exact ln_rx hn9 hf0 (by unfold md_q_firstOf md_q_ln; rw [ln_e0 zr]) (by decide) rfl)
  obtain ⟨rfl, hn9, ht9, hr9, zr, hss⟩ := hq
  replace hn9 := hn9.symm; replace ht9 := ht9.symm; replace hr9 := hr9.symm; subst hn9 ht9 hr9
  simp only [Option.toList_some, Option.toList_none, List.cons_append, List.nil_append, Nat.sub_zero]
  replace hss := hss.symm
  subst hss
  have hp9 := cl_hasT zr
  obtain ⟨l1, l2, l3, l4, l5, l6, l7, l8⟩ := hr.2.2.1 p hp9
  obtain ⟨m1, m2, m3, m4, m5, m6, m7, m8⟩ := md_inv_ln hi (l := p) ⟨by omega, by omega⟩
  refine jk_aload_n (q := 6) dX12_firstOf_5 rfl rfl ?_
  refine jk_getA (q := 9) (k := 12) 0 0 rfl (by first | exact hx0 | exact hs.1 | exact hs.2.1 _ _ rfl | exact hfo.1 | exact hfo.2.1 _ _ rfl | exact hwa.1.1 | exact hwa.1.2.1 | exact hwa.1.2.2 | exact hsh.1.1 | exact hsh.1.2.1 | exact hhe.1.1 | exact hba.1.1 | exact hcc.1 | exact hH.1 | exact hsc.1.1 | exact hB4.1 | exact hSN.1 | assumption) (by first | assumption | exact hs.2.2.1 _ _ rfl | exact hfo.2.2.1 _ _ rfl | exact hwa.2.1.2.2.1 | exact hsh.2.1.2.1) rfl rfl jw_375 dX12_firstOf_6 rfl ?_
  refine jk_getA (q := 12) (k := 9) 4 4 rfl (by first | exact hx0 | exact hs.1 | exact hs.2.1 _ _ rfl | exact hfo.1 | exact hfo.2.1 _ _ rfl | exact hwa.1.1 | exact hwa.1.2.1 | exact hwa.1.2.2 | exact hsh.1.1 | exact hsh.1.2.1 | exact hhe.1.1 | exact hba.1.1 | exact hcc.1 | exact hH.1 | exact hsc.1.1 | exact hB4.1 | exact hSN.1 | assumption) (by first | assumption | exact hs.2.2.1 _ _ rfl | exact hfo.2.2.1 _ _ rfl | exact hwa.2.1.2.2.1 | exact hsh.2.1.2.1) rfl rfl jw_78 dX12_firstOf_9 rfl ?_
  refine jk_iload_n (q := 13) dX12_firstOf_12 rfl rfl ?_
  refine jk_ialdR (q := 14) (by first | exact hx0 | exact hs.1 | exact hs.2.1 _ _ rfl | exact hfo.1 | exact hfo.2.1 _ _ rfl | exact hwa.1.1 | exact hwa.1.2.1 | exact hwa.1.2.2 | exact hsh.1.1 | exact hsh.1.2.1 | exact hhe.1.1 | exact hba.1.1 | exact hcc.1 | exact hH.1 | exact hsc.1.1 | exact hB4.1 | exact hSN.1 | assumption) (by first | exact jk_row_same _ _ _ | ((repeat rewrite [jk_row_ne _ _ (by omega)]); first | exact jk_row_same _ _ _ | rfl)) (by first | assumption | decide | omega | exact jB_01 _ | exact jB_in _ | exact ⟨by omega, by omega⟩) dX12_firstOf_13 rfl ?_
  rw [l1]
  exact jk_iret rfl dX12_firstOf_14 (by exact ln_rqI hf0 (by unfold md_q_firstOf md_q_ln; rw [ln_e1 zr]))
theorem c_X12_secondOf {G : jk_G} {n : Nat} {t : jk_T} {σ : jk_I} {ρ : jk_P} {x : Nat} {g : Int → Int} {B : Int} {p : Int} (hz : zz_ok G) (hx : zx_ok G) (hln : ln_at t ρ x) (hr : cl_rel σ (x + 2) g) (ha : md_all B g) (hnn : cl_nn σ (x + 2)) (hsi : md_sit g) (hp : jk_in p) : jk_K G yX12_secondOf mX12_secondOf 6 36 [.ref x, jI p] n t σ ρ (ln_RQ x ((md_q_secondOf g p).1) (jI (md_q_secondOf g p).2) σ n t ρ) (ln_RX x ((md_q_secondOf g p).1) (ex_1 "java/lang/IndexOutOfBoundsException") σ n t ρ) := by
  obtain ⟨hx0, ⟨hx1, hx2, hx3, hx4, hx5, hx6, hx7, hx8, hx9, hx10, hx11, hx12⟩, hB4, hSN, hH, hhe, hba, hch, hsc⟩ := id hln
  obtain ⟨hcc, hwa, hsh, hwy, hyc⟩ := id hch
  obtain ⟨-, -, hfo, hfw⟩ := id hwa
  obtain ⟨-, -, -, -, hs, hsf⟩ := id hfo
  have hi := ha.1
  have hw := ha.2.1
  have hxx := ha.2.2.1
  have i0 := hi.1
  have i1 := hi.2.1
  have i2 := hi.2.2.1
  have i3 := hi.2.2.2.1
  obtain ⟨q0, q1, q2, q3⟩ := hr.1
  have hf0 : ln_fr x σ σ := fun _ _ => rfl
  refine jk_entryB (ls := [some (.ref x), some (jI p)]) jm_X12_secondOf.1 rfl rfl rfl ?_
  refine jk_aload_n (q := 1) dX12_secondOf_0 rfl rfl ?_
  refine jk_iload_n (q := 2) dX12_secondOf_1 rfl rfl ?_
  refine jk_cV1g (q := 5) (c_X12_requireLine hz hx hln hr ha hnn hsi hp) jm_X12_requireLine jw_944 rfl (by first | exact hx0 | exact hs.1 | exact hs.2.1 _ _ rfl | exact hfo.1 | exact hfo.2.1 _ _ rfl | exact hwa.1.1 | exact hwa.1.2.1 | exact hwa.1.2.2 | exact hsh.1.1 | exact hsh.1.2.1 | exact hhe.1.1 | exact hba.1.1 | exact hcc.1 | exact hH.1 | exact hsc.1.1 | exact hB4.1 | exact hSN.1 | assumption) rfl rfl (by decide) (by decide) rfl dX12_secondOf_2 rfl (fun v' n' t' σ8 ρ' hq => ?_) (fun E n' t' σ' ρ' hx9 => by
            obtain ⟨rfl, hn9, rfl, rfl, zr, rfl⟩ := hx9
            exact ln_rx hn9 hf0 (by unfold md_q_secondOf md_q_ln; rw [ln_e0 zr]) (by decide) rfl)
  obtain ⟨rfl, hn9, ht9, hr9, zr, hss⟩ := hq
  replace hn9 := hn9.symm; replace ht9 := ht9.symm; replace hr9 := hr9.symm; subst hn9 ht9 hr9
  simp only [Option.toList_some, Option.toList_none, List.cons_append, List.nil_append, Nat.sub_zero]
  replace hss := hss.symm
  subst hss
  have hp9 := cl_hasT zr
  obtain ⟨l1, l2, l3, l4, l5, l6, l7, l8⟩ := hr.2.2.1 p hp9
  obtain ⟨m1, m2, m3, m4, m5, m6, m7, m8⟩ := md_inv_ln hi (l := p) ⟨by omega, by omega⟩
  refine jk_aload_n (q := 6) dX12_secondOf_5 rfl rfl ?_
  refine jk_getA (q := 9) (k := 12) 0 0 rfl (by first | exact hx0 | exact hs.1 | exact hs.2.1 _ _ rfl | exact hfo.1 | exact hfo.2.1 _ _ rfl | exact hwa.1.1 | exact hwa.1.2.1 | exact hwa.1.2.2 | exact hsh.1.1 | exact hsh.1.2.1 | exact hhe.1.1 | exact hba.1.1 | exact hcc.1 | exact hH.1 | exact hsc.1.1 | exact hB4.1 | exact hSN.1 | assumption) (by first | assumption | exact hs.2.2.1 _ _ rfl | exact hfo.2.2.1 _ _ rfl | exact hwa.2.1.2.2.1 | exact hsh.2.1.2.1) rfl rfl jw_375 dX12_secondOf_6 rfl ?_
  refine jk_getA (q := 12) (k := 9) 5 5 rfl (by first | exact hx0 | exact hs.1 | exact hs.2.1 _ _ rfl | exact hfo.1 | exact hfo.2.1 _ _ rfl | exact hwa.1.1 | exact hwa.1.2.1 | exact hwa.1.2.2 | exact hsh.1.1 | exact hsh.1.2.1 | exact hhe.1.1 | exact hba.1.1 | exact hcc.1 | exact hH.1 | exact hsc.1.1 | exact hB4.1 | exact hSN.1 | assumption) (by first | assumption | exact hs.2.2.1 _ _ rfl | exact hfo.2.2.1 _ _ rfl | exact hwa.2.1.2.2.1 | exact hsh.2.1.2.1) rfl rfl jw_84 dX12_secondOf_9 rfl ?_
  refine jk_iload_n (q := 13) dX12_secondOf_12 rfl rfl ?_
  refine jk_ialdR (q := 14) (by first | exact hx0 | exact hs.1 | exact hs.2.1 _ _ rfl | exact hfo.1 | exact hfo.2.1 _ _ rfl | exact hwa.1.1 | exact hwa.1.2.1 | exact hwa.1.2.2 | exact hsh.1.1 | exact hsh.1.2.1 | exact hhe.1.1 | exact hba.1.1 | exact hcc.1 | exact hH.1 | exact hsc.1.1 | exact hB4.1 | exact hSN.1 | assumption) (by first | exact jk_row_same _ _ _ | ((repeat rewrite [jk_row_ne _ _ (by omega)]); first | exact jk_row_same _ _ _ | rfl)) (by first | assumption | decide | omega | exact jB_01 _ | exact jB_in _ | exact ⟨by omega, by omega⟩) dX12_secondOf_13 rfl ?_
  rw [l2]
  exact jk_iret rfl dX12_secondOf_14 (by exact ln_rqI hf0 (by unfold md_q_secondOf md_q_ln; rw [ln_e1 zr]))
theorem c_X12_lengthOf {G : jk_G} {n : Nat} {t : jk_T} {σ : jk_I} {ρ : jk_P} {x : Nat} {g : Int → Int} {B : Int} {p : Int} (hz : zz_ok G) (hx : zx_ok G) (hln : ln_at t ρ x) (hr : cl_rel σ (x + 2) g) (ha : md_all B g) (hnn : cl_nn σ (x + 2)) (hsi : md_sit g) (hp : jk_in p) : jk_K G yX12_lengthOf mX12_lengthOf 6 36 [.ref x, jI p] n t σ ρ (ln_RQ x ((md_q_lengthOf g p).1) (jI (md_q_lengthOf g p).2) σ n t ρ) (ln_RX x ((md_q_lengthOf g p).1) (ex_1 "java/lang/IndexOutOfBoundsException") σ n t ρ) := by
  obtain ⟨hx0, ⟨hx1, hx2, hx3, hx4, hx5, hx6, hx7, hx8, hx9, hx10, hx11, hx12⟩, hB4, hSN, hH, hhe, hba, hch, hsc⟩ := id hln
  obtain ⟨hcc, hwa, hsh, hwy, hyc⟩ := id hch
  obtain ⟨-, -, hfo, hfw⟩ := id hwa
  obtain ⟨-, -, -, -, hs, hsf⟩ := id hfo
  have hi := ha.1
  have hw := ha.2.1
  have hxx := ha.2.2.1
  have i0 := hi.1
  have i1 := hi.2.1
  have i2 := hi.2.2.1
  have i3 := hi.2.2.2.1
  obtain ⟨q0, q1, q2, q3⟩ := hr.1
  have hf0 : ln_fr x σ σ := fun _ _ => rfl
  refine jk_entryB (ls := [some (.ref x), some (jI p)]) jm_X12_lengthOf.1 rfl rfl rfl ?_
  refine jk_aload_n (q := 1) dX12_lengthOf_0 rfl rfl ?_
  refine jk_iload_n (q := 2) dX12_lengthOf_1 rfl rfl ?_
  refine jk_cV1g (q := 5) (c_X12_requireLine hz hx hln hr ha hnn hsi hp) jm_X12_requireLine jw_944 rfl (by first | exact hx0 | exact hs.1 | exact hs.2.1 _ _ rfl | exact hfo.1 | exact hfo.2.1 _ _ rfl | exact hwa.1.1 | exact hwa.1.2.1 | exact hwa.1.2.2 | exact hsh.1.1 | exact hsh.1.2.1 | exact hhe.1.1 | exact hba.1.1 | exact hcc.1 | exact hH.1 | exact hsc.1.1 | exact hB4.1 | exact hSN.1 | assumption) rfl rfl (by decide) (by decide) rfl dX12_lengthOf_2 rfl (fun v' n' t' σ8 ρ' hq => ?_) (fun E n' t' σ' ρ' hx9 => by
            obtain ⟨rfl, hn9, rfl, rfl, zr, rfl⟩ := hx9
            exact ln_rx hn9 hf0 (by unfold md_q_lengthOf md_q_ln; rw [ln_e0 zr]) (by decide) rfl)
  obtain ⟨rfl, hn9, ht9, hr9, zr, hss⟩ := hq
  replace hn9 := hn9.symm; replace ht9 := ht9.symm; replace hr9 := hr9.symm; subst hn9 ht9 hr9
  simp only [Option.toList_some, Option.toList_none, List.cons_append, List.nil_append, Nat.sub_zero]
  replace hss := hss.symm
  subst hss
  have hp9 := cl_hasT zr
  obtain ⟨l1, l2, l3, l4, l5, l6, l7, l8⟩ := hr.2.2.1 p hp9
  obtain ⟨m1, m2, m3, m4, m5, m6, m7, m8⟩ := md_inv_ln hi (l := p) ⟨by omega, by omega⟩
  refine jk_aload_n (q := 6) dX12_lengthOf_5 rfl rfl ?_
  refine jk_getA (q := 9) (k := 12) 0 0 rfl (by first | exact hx0 | exact hs.1 | exact hs.2.1 _ _ rfl | exact hfo.1 | exact hfo.2.1 _ _ rfl | exact hwa.1.1 | exact hwa.1.2.1 | exact hwa.1.2.2 | exact hsh.1.1 | exact hsh.1.2.1 | exact hhe.1.1 | exact hba.1.1 | exact hcc.1 | exact hH.1 | exact hsc.1.1 | exact hB4.1 | exact hSN.1 | assumption) (by first | assumption | exact hs.2.2.1 _ _ rfl | exact hfo.2.2.1 _ _ rfl | exact hwa.2.1.2.2.1 | exact hsh.2.1.2.1) rfl rfl jw_375 dX12_lengthOf_6 rfl ?_
  refine jk_getA (q := 12) (k := 9) 6 6 rfl (by first | exact hx0 | exact hs.1 | exact hs.2.1 _ _ rfl | exact hfo.1 | exact hfo.2.1 _ _ rfl | exact hwa.1.1 | exact hwa.1.2.1 | exact hwa.1.2.2 | exact hsh.1.1 | exact hsh.1.2.1 | exact hhe.1.1 | exact hba.1.1 | exact hcc.1 | exact hH.1 | exact hsc.1.1 | exact hB4.1 | exact hSN.1 | assumption) (by first | assumption | exact hs.2.2.1 _ _ rfl | exact hfo.2.2.1 _ _ rfl | exact hwa.2.1.2.2.1 | exact hsh.2.1.2.1) rfl rfl jw_90 dX12_lengthOf_9 rfl ?_
  refine jk_iload_n (q := 13) dX12_lengthOf_12 rfl rfl ?_
  refine jk_ialdR (q := 14) (by first | exact hx0 | exact hs.1 | exact hs.2.1 _ _ rfl | exact hfo.1 | exact hfo.2.1 _ _ rfl | exact hwa.1.1 | exact hwa.1.2.1 | exact hwa.1.2.2 | exact hsh.1.1 | exact hsh.1.2.1 | exact hhe.1.1 | exact hba.1.1 | exact hcc.1 | exact hH.1 | exact hsc.1.1 | exact hB4.1 | exact hSN.1 | assumption) (by first | exact jk_row_same _ _ _ | ((repeat rewrite [jk_row_ne _ _ (by omega)]); first | exact jk_row_same _ _ _ | rfl)) (by first | assumption | decide | omega | exact jB_01 _ | exact jB_in _ | exact ⟨by omega, by omega⟩) dX12_lengthOf_13 rfl ?_
  rw [l3]
  exact jk_iret rfl dX12_lengthOf_14 (by exact ln_rqI hf0 (by unfold md_q_lengthOf md_q_ln; rw [ln_e1 zr]))
theorem c_X12_correction {G : jk_G} {n : Nat} {t : jk_T} {σ : jk_I} {ρ : jk_P} {x : Nat} {g : Int → Int} {B : Int} {p : Int} (hz : zz_ok G) (hx : zx_ok G) (hln : ln_at t ρ x) (hr : cl_rel σ (x + 2) g) (ha : md_all B g) (hnn : cl_nn σ (x + 2)) (hsi : md_sit g) (hp : jk_in p) : jk_K G yX12_correction mX12_correction 6 36 [.ref x, jI p] n t σ ρ (ln_RQ x ((md_q_correction g p).1) (jI (md_q_correction g p).2) σ n t ρ) (ln_RX x ((md_q_correction g p).1) (ex_1 "java/lang/IndexOutOfBoundsException") σ n t ρ) := by
  obtain ⟨hx0, ⟨hx1, hx2, hx3, hx4, hx5, hx6, hx7, hx8, hx9, hx10, hx11, hx12⟩, hB4, hSN, hH, hhe, hba, hch, hsc⟩ := id hln
  obtain ⟨hcc, hwa, hsh, hwy, hyc⟩ := id hch
  obtain ⟨-, -, hfo, hfw⟩ := id hwa
  obtain ⟨-, -, -, -, hs, hsf⟩ := id hfo
  have hi := ha.1
  have hw := ha.2.1
  have hxx := ha.2.2.1
  have i0 := hi.1
  have i1 := hi.2.1
  have i2 := hi.2.2.1
  have i3 := hi.2.2.2.1
  obtain ⟨q0, q1, q2, q3⟩ := hr.1
  have hf0 : ln_fr x σ σ := fun _ _ => rfl
  refine jk_entryB (ls := [some (.ref x), some (jI p)]) jm_X12_correction.1 rfl rfl rfl ?_
  refine jk_aload_n (q := 1) dX12_correction_0 rfl rfl ?_
  refine jk_iload_n (q := 2) dX12_correction_1 rfl rfl ?_
  refine jk_cV1g (q := 5) (c_X12_requireLine hz hx hln hr ha hnn hsi hp) jm_X12_requireLine jw_944 rfl (by first | exact hx0 | exact hs.1 | exact hs.2.1 _ _ rfl | exact hfo.1 | exact hfo.2.1 _ _ rfl | exact hwa.1.1 | exact hwa.1.2.1 | exact hwa.1.2.2 | exact hsh.1.1 | exact hsh.1.2.1 | exact hhe.1.1 | exact hba.1.1 | exact hcc.1 | exact hH.1 | exact hsc.1.1 | exact hB4.1 | exact hSN.1 | assumption) rfl rfl (by decide) (by decide) rfl dX12_correction_2 rfl (fun v' n' t' σ8 ρ' hq => ?_) (fun E n' t' σ' ρ' hx9 => by
            obtain ⟨rfl, hn9, rfl, rfl, zr, rfl⟩ := hx9
            exact ln_rx hn9 hf0 (by unfold md_q_correction md_q_ln; rw [ln_e0 zr]) (by decide) rfl)
  obtain ⟨rfl, hn9, ht9, hr9, zr, hss⟩ := hq
  replace hn9 := hn9.symm; replace ht9 := ht9.symm; replace hr9 := hr9.symm; subst hn9 ht9 hr9
  simp only [Option.toList_some, Option.toList_none, List.cons_append, List.nil_append, Nat.sub_zero]
  replace hss := hss.symm
  subst hss
  have hp9 := cl_hasT zr
  obtain ⟨l1, l2, l3, l4, l5, l6, l7, l8⟩ := hr.2.2.1 p hp9
  obtain ⟨m1, m2, m3, m4, m5, m6, m7, m8⟩ := md_inv_ln hi (l := p) ⟨by omega, by omega⟩
  refine jk_aload_n (q := 6) dX12_correction_5 rfl rfl ?_
  refine jk_getA (q := 9) (k := 12) 0 0 rfl (by first | exact hx0 | exact hs.1 | exact hs.2.1 _ _ rfl | exact hfo.1 | exact hfo.2.1 _ _ rfl | exact hwa.1.1 | exact hwa.1.2.1 | exact hwa.1.2.2 | exact hsh.1.1 | exact hsh.1.2.1 | exact hhe.1.1 | exact hba.1.1 | exact hcc.1 | exact hH.1 | exact hsc.1.1 | exact hB4.1 | exact hSN.1 | assumption) (by first | assumption | exact hs.2.2.1 _ _ rfl | exact hfo.2.2.1 _ _ rfl | exact hwa.2.1.2.2.1 | exact hsh.2.1.2.1) rfl rfl jw_375 dX12_correction_6 rfl ?_
  refine jk_getA (q := 12) (k := 9) 11 11 rfl (by first | exact hx0 | exact hs.1 | exact hs.2.1 _ _ rfl | exact hfo.1 | exact hfo.2.1 _ _ rfl | exact hwa.1.1 | exact hwa.1.2.1 | exact hwa.1.2.2 | exact hsh.1.1 | exact hsh.1.2.1 | exact hhe.1.1 | exact hba.1.1 | exact hcc.1 | exact hH.1 | exact hsc.1.1 | exact hB4.1 | exact hSN.1 | assumption) (by first | assumption | exact hs.2.2.1 _ _ rfl | exact hfo.2.2.1 _ _ rfl | exact hwa.2.1.2.2.1 | exact hsh.2.1.2.1) rfl rfl jw_104 dX12_correction_9 rfl ?_
  refine jk_iload_n (q := 13) dX12_correction_12 rfl rfl ?_
  refine jk_ialdR (q := 14) (by first | exact hx0 | exact hs.1 | exact hs.2.1 _ _ rfl | exact hfo.1 | exact hfo.2.1 _ _ rfl | exact hwa.1.1 | exact hwa.1.2.1 | exact hwa.1.2.2 | exact hsh.1.1 | exact hsh.1.2.1 | exact hhe.1.1 | exact hba.1.1 | exact hcc.1 | exact hH.1 | exact hsc.1.1 | exact hB4.1 | exact hSN.1 | assumption) (by first | exact jk_row_same _ _ _ | ((repeat rewrite [jk_row_ne _ _ (by omega)]); first | exact jk_row_same _ _ _ | rfl)) (by first | assumption | decide | omega | exact jB_01 _ | exact jB_in _ | exact ⟨by omega, by omega⟩) dX12_correction_13 rfl ?_
  rw [l8]
  exact jk_iret rfl dX12_correction_14 (by exact ln_rqI hf0 (by unfold md_q_correction md_q_ln; rw [ln_e1 zr]))
theorem c_X12_isExcluded {G : jk_G} {n : Nat} {t : jk_T} {σ : jk_I} {ρ : jk_P} {x : Nat} {g : Int → Int} {B : Int} {p : Int} (hz : zz_ok G) (hx : zx_ok G) (hln : ln_at t ρ x) (hr : cl_rel σ (x + 2) g) (ha : md_all B g) (hnn : cl_nn σ (x + 2)) (hsi : md_sit g) (hp : jk_in p) : jk_K G yX12_isExcluded mX12_isExcluded 6 36 [.ref x, jI p] n t σ ρ (ln_RQ x ((md_q_ex g p).1) (jI (jB (md_q_ex g p).2)) σ n t ρ) (ln_RX x ((md_q_ex g p).1) (ex_1 "java/lang/IndexOutOfBoundsException") σ n t ρ) := by
  obtain ⟨hx0, ⟨hx1, hx2, hx3, hx4, hx5, hx6, hx7, hx8, hx9, hx10, hx11, hx12⟩, hB4, hSN, hH, hhe, hba, hch, hsc⟩ := id hln
  obtain ⟨hcc, hwa, hsh, hwy, hyc⟩ := id hch
  obtain ⟨-, -, hfo, hfw⟩ := id hwa
  obtain ⟨-, -, -, -, hs, hsf⟩ := id hfo
  have hi := ha.1
  have hw := ha.2.1
  have hxx := ha.2.2.1
  have i0 := hi.1
  have i1 := hi.2.1
  have i2 := hi.2.2.1
  have i3 := hi.2.2.2.1
  obtain ⟨q0, q1, q2, q3⟩ := hr.1
  have hf0 : ln_fr x σ σ := fun _ _ => rfl
  refine jk_entryB (ls := [some (.ref x), some (jI p)]) jm_X12_isExcluded.1 rfl rfl rfl ?_
  refine jk_aload_n (q := 1) dX12_isExcluded_0 rfl rfl ?_
  refine jk_iload_n (q := 2) dX12_isExcluded_1 rfl rfl ?_
  refine jk_cV1g (q := 5) (c_X12_requireLine hz hx hln hr ha hnn hsi hp) jm_X12_requireLine jw_944 rfl (by first | exact hx0 | exact hs.1 | exact hs.2.1 _ _ rfl | exact hfo.1 | exact hfo.2.1 _ _ rfl | exact hwa.1.1 | exact hwa.1.2.1 | exact hwa.1.2.2 | exact hsh.1.1 | exact hsh.1.2.1 | exact hhe.1.1 | exact hba.1.1 | exact hcc.1 | exact hH.1 | exact hsc.1.1 | exact hB4.1 | exact hSN.1 | assumption) rfl rfl (by decide) (by decide) rfl dX12_isExcluded_2 rfl (fun v' n' t' σ8 ρ' hq => ?_) (fun E n' t' σ' ρ' hx9 => by
            obtain ⟨rfl, hn9, rfl, rfl, zr, rfl⟩ := hx9
            exact ln_rx hn9 hf0 (by unfold md_q_ex; rw [ln_e0 zr]) (by decide) rfl)
  obtain ⟨rfl, hn9, ht9, hr9, zr, hss⟩ := hq
  replace hn9 := hn9.symm; replace ht9 := ht9.symm; replace hr9 := hr9.symm; subst hn9 ht9 hr9
  simp only [Option.toList_some, Option.toList_none, List.cons_append, List.nil_append, Nat.sub_zero]
  replace hss := hss.symm
  subst hss
  have hp9 := cl_hasT zr
  obtain ⟨l1, l2, l3, l4, l5, l6, l7, l8⟩ := hr.2.2.1 p hp9
  obtain ⟨m1, m2, m3, m4, m5, m6, m7, m8⟩ := md_inv_ln hi (l := p) ⟨by omega, by omega⟩
  refine jk_aload_n (q := 6) dX12_isExcluded_5 rfl rfl ?_
  refine jk_getA (q := 9) (k := 12) 0 0 rfl (by first | exact hx0 | exact hs.1 | exact hs.2.1 _ _ rfl | exact hfo.1 | exact hfo.2.1 _ _ rfl | exact hwa.1.1 | exact hwa.1.2.1 | exact hwa.1.2.2 | exact hsh.1.1 | exact hsh.1.2.1 | exact hhe.1.1 | exact hba.1.1 | exact hcc.1 | exact hH.1 | exact hsc.1.1 | exact hB4.1 | exact hSN.1 | assumption) (by first | assumption | exact hs.2.2.1 _ _ rfl | exact hfo.2.2.1 _ _ rfl | exact hwa.2.1.2.2.1 | exact hsh.2.1.2.1) rfl rfl jw_375 dX12_isExcluded_6 rfl ?_
  refine jk_getA (q := 12) (k := 9) 10 10 rfl (by first | exact hx0 | exact hs.1 | exact hs.2.1 _ _ rfl | exact hfo.1 | exact hfo.2.1 _ _ rfl | exact hwa.1.1 | exact hwa.1.2.1 | exact hwa.1.2.2 | exact hsh.1.1 | exact hsh.1.2.1 | exact hhe.1.1 | exact hba.1.1 | exact hcc.1 | exact hH.1 | exact hsc.1.1 | exact hB4.1 | exact hSN.1 | assumption) (by first | assumption | exact hs.2.2.1 _ _ rfl | exact hfo.2.2.1 _ _ rfl | exact hwa.2.1.2.2.1 | exact hsh.2.1.2.1) rfl rfl jw_100 dX12_isExcluded_9 rfl ?_
  refine jk_iload_n (q := 13) dX12_isExcluded_12 rfl rfl ?_
  refine jk_zaldR (q := 14) (by first | exact hx0 | exact hs.1 | exact hs.2.1 _ _ rfl | exact hfo.1 | exact hfo.2.1 _ _ rfl | exact hwa.1.1 | exact hwa.1.2.1 | exact hwa.1.2.2 | exact hsh.1.1 | exact hsh.1.2.1 | exact hhe.1.1 | exact hba.1.1 | exact hcc.1 | exact hH.1 | exact hsc.1.1 | exact hB4.1 | exact hSN.1 | assumption) (by first | exact jk_row_same _ _ _ | ((repeat rewrite [jk_row_ne _ _ (by omega)]); first | exact jk_row_same _ _ _ | rfl)) (by first | assumption | decide | omega | exact jB_01 _ | exact jB_in _ | exact ⟨by omega, by omega⟩) dX12_isExcluded_13 rfl ?_
  rw [l7]
  exact jk_zret rfl (by first | assumption | decide | omega | exact jB_01 _ | exact jB_in _ | exact ⟨by omega, by omega⟩) dX12_isExcluded_14 (by exact ln_rqB hf0 (by unfold md_q_ex; rw [ln_e1 zr]) (by rcases m7 with m7 | m7 <;> rw [m7] <;> rfl))
theorem c_X12_stationCount {G : jk_G} {n : Nat} {t : jk_T} {σ : jk_I} {ρ : jk_P} {x : Nat} {g : Int → Int} {B : Int} {p : Int} (hz : zz_ok G) (hx : zx_ok G) (hln : ln_at t ρ x) (hr : cl_rel σ (x + 2) g) (ha : md_all B g) (hnn : cl_nn σ (x + 2)) (hsi : md_sit g) (hp : jk_in p) : jk_K G yX12_stationCount mX12_stationCount 6 36 [.ref x, jI p] n t σ ρ (ln_RQ x ((md_q_st g p).1) (jI (md_q_st g p).2) σ n t ρ) (ln_RX x ((md_q_st g p).1) (ex_1 "java/lang/IndexOutOfBoundsException") σ n t ρ) := by
  obtain ⟨hx0, ⟨hx1, hx2, hx3, hx4, hx5, hx6, hx7, hx8, hx9, hx10, hx11, hx12⟩, hB4, hSN, hH, hhe, hba, hch, hsc⟩ := id hln
  obtain ⟨hcc, hwa, hsh, hwy, hyc⟩ := id hch
  obtain ⟨-, -, hfo, hfw⟩ := id hwa
  obtain ⟨-, -, -, -, hs, hsf⟩ := id hfo
  have hi := ha.1
  have hw := ha.2.1
  have hxx := ha.2.2.1
  have i0 := hi.1
  have i1 := hi.2.1
  have i2 := hi.2.2.1
  have i3 := hi.2.2.2.1
  obtain ⟨q0, q1, q2, q3⟩ := hr.1
  have hf0 : ln_fr x σ σ := fun _ _ => rfl
  refine jk_entryB (ls := [some (.ref x), some (jI p)]) jm_X12_stationCount.1 rfl rfl rfl ?_
  refine jk_aload_n (q := 1) dX12_stationCount_0 rfl rfl ?_
  refine jk_iload_n (q := 2) dX12_stationCount_1 rfl rfl ?_
  refine jk_cV1g (q := 5) (c_X12_requireProfile hz hx hln hr ha hnn hsi hp) jm_X12_requireProfile jw_1076 rfl (by first | exact hx0 | exact hs.1 | exact hs.2.1 _ _ rfl | exact hfo.1 | exact hfo.2.1 _ _ rfl | exact hwa.1.1 | exact hwa.1.2.1 | exact hwa.1.2.2 | exact hsh.1.1 | exact hsh.1.2.1 | exact hhe.1.1 | exact hba.1.1 | exact hcc.1 | exact hH.1 | exact hsc.1.1 | exact hB4.1 | exact hSN.1 | assumption) rfl rfl (by decide) (by decide) rfl dX12_stationCount_2 rfl (fun v' n' t' σ8 ρ' hq => ?_) (fun E n' t' σ' ρ' hx9 => by
            obtain ⟨rfl, hn9, rfl, rfl, zr, rfl⟩ := hx9
            exact ln_rx hn9 hf0 (by unfold md_q_st; rw [ln_e0 zr]) (by decide) rfl)
  obtain ⟨rfl, hn9, ht9, hr9, zr, hss⟩ := hq
  replace hn9 := hn9.symm; replace ht9 := ht9.symm; replace hr9 := hr9.symm; subst hn9 ht9 hr9
  simp only [Option.toList_some, Option.toList_none, List.cons_append, List.nil_append, Nat.sub_zero]
  replace hss := hss.symm
  subst hss
  have hp9 := cl_hasT zr
  obtain ⟨q, hq9⟩ : ∃ q : Nat, p = (q : Int) := ⟨p.toNat, by omega⟩
  subst hq9
  obtain ⟨r1, r2, r3⟩ := hr.2.2.2 q hp9.2
  refine jk_aload_n (q := 6) dX12_stationCount_5 rfl rfl ?_
  refine jk_getA (q := 9) (k := 12) 0 0 rfl (by first | exact hx0 | exact hs.1 | exact hs.2.1 _ _ rfl | exact hfo.1 | exact hfo.2.1 _ _ rfl | exact hwa.1.1 | exact hwa.1.2.1 | exact hwa.1.2.2 | exact hsh.1.1 | exact hsh.1.2.1 | exact hhe.1.1 | exact hba.1.1 | exact hcc.1 | exact hH.1 | exact hsc.1.1 | exact hB4.1 | exact hSN.1 | assumption) (by first | assumption | exact hs.2.2.1 _ _ rfl | exact hfo.2.2.1 _ _ rfl | exact hwa.2.1.2.2.1 | exact hsh.2.1.2.1) rfl rfl jw_375 dX12_stationCount_6 rfl ?_
  refine jk_getA (q := 12) (k := 9) 14 14 rfl (by first | exact hx0 | exact hs.1 | exact hs.2.1 _ _ rfl | exact hfo.1 | exact hfo.2.1 _ _ rfl | exact hwa.1.1 | exact hwa.1.2.1 | exact hwa.1.2.2 | exact hsh.1.1 | exact hsh.1.2.1 | exact hhe.1.1 | exact hba.1.1 | exact hcc.1 | exact hH.1 | exact hsc.1.1 | exact hB4.1 | exact hSN.1 | assumption) (by first | assumption | exact hs.2.2.1 _ _ rfl | exact hfo.2.2.1 _ _ rfl | exact hwa.2.1.2.2.1 | exact hsh.2.1.2.1) rfl rfl jw_114 dX12_stationCount_9 rfl ?_
  refine jk_iload_n (q := 13) dX12_stationCount_12 rfl rfl ?_
  refine jk_ialdR (q := 14) (by first | exact hx0 | exact hs.1 | exact hs.2.1 _ _ rfl | exact hfo.1 | exact hfo.2.1 _ _ rfl | exact hwa.1.1 | exact hwa.1.2.1 | exact hwa.1.2.2 | exact hsh.1.1 | exact hsh.1.2.1 | exact hhe.1.1 | exact hba.1.1 | exact hcc.1 | exact hH.1 | exact hsc.1.1 | exact hB4.1 | exact hSN.1 | assumption) (by first | exact jk_row_same _ _ _ | ((repeat rewrite [jk_row_ne _ _ (by omega)]); first | exact jk_row_same _ _ _ | rfl)) (by first | assumption | decide | omega | exact jB_01 _ | exact jB_in _ | exact ⟨by omega, by omega⟩) dX12_stationCount_13 rfl ?_
  rw [r2]
  exact jk_iret rfl dX12_stationCount_14 (by exact ln_rqI hf0 (by unfold md_q_st; rw [ln_e1 zr]))
theorem c_X12_levelledDifference {G : jk_G} {n : Nat} {t : jk_T} {σ : jk_I} {ρ : jk_P} {x : Nat} {g : Int → Int} {B : Int} {p : Int} (hz : zz_ok G) (hx : zx_ok G) (hln : ln_at t ρ x) (hr : cl_rel σ (x + 2) g) (ha : md_all B g) (hnn : cl_nn σ (x + 2)) (hsi : md_sit g) (hp : jk_in p) : jk_K G yX12_levelledDifference mX12_levelledDifference 6 36 [.ref x, jI p] n t σ ρ (ln_RQ x ((md_q_lv g p).1) (jI (md_q_lv g p).2) σ n t ρ) (ln_RX x ((md_q_lv g p).1) (ex_1 "java/lang/IndexOutOfBoundsException") σ n t ρ) := by
  obtain ⟨hx0, ⟨hx1, hx2, hx3, hx4, hx5, hx6, hx7, hx8, hx9, hx10, hx11, hx12⟩, hB4, hSN, hH, hhe, hba, hch, hsc⟩ := id hln
  obtain ⟨hcc, hwa, hsh, hwy, hyc⟩ := id hch
  obtain ⟨-, -, hfo, hfw⟩ := id hwa
  obtain ⟨-, -, -, -, hs, hsf⟩ := id hfo
  have hi := ha.1
  have hw := ha.2.1
  have hxx := ha.2.2.1
  have i0 := hi.1
  have i1 := hi.2.1
  have i2 := hi.2.2.1
  have i3 := hi.2.2.2.1
  obtain ⟨q0, q1, q2, q3⟩ := hr.1
  have hf0 : ln_fr x σ σ := fun _ _ => rfl
  refine jk_entryB (ls := [some (.ref x), some (jI p)]) jm_X12_levelledDifference.1 rfl rfl rfl ?_
  refine jk_aload_n (q := 1) dX12_levelledDifference_0 rfl rfl ?_
  refine jk_iload_n (q := 2) dX12_levelledDifference_1 rfl rfl ?_
  refine jk_cV1g (q := 5) (c_X12_requireLine hz hx hln hr ha hnn hsi hp) jm_X12_requireLine jw_944 rfl (by first | exact hx0 | exact hs.1 | exact hs.2.1 _ _ rfl | exact hfo.1 | exact hfo.2.1 _ _ rfl | exact hwa.1.1 | exact hwa.1.2.1 | exact hwa.1.2.2 | exact hsh.1.1 | exact hsh.1.2.1 | exact hhe.1.1 | exact hba.1.1 | exact hcc.1 | exact hH.1 | exact hsc.1.1 | exact hB4.1 | exact hSN.1 | assumption) rfl rfl (by decide) (by decide) rfl dX12_levelledDifference_2 rfl (fun v' n' t' σ8 ρ' hq => ?_) (fun E n' t' σ' ρ' hx9 => by
            obtain ⟨rfl, hn9, rfl, rfl, zr, rfl⟩ := hx9
            exact ln_rx hn9 hf0 (by unfold md_q_lv; rw [ln_e0 zr]) (by decide) rfl)
  obtain ⟨rfl, hn9, ht9, hr9, zr, hss⟩ := hq
  replace hn9 := hn9.symm; replace ht9 := ht9.symm; replace hr9 := hr9.symm; subst hn9 ht9 hr9
  simp only [Option.toList_some, Option.toList_none, List.cons_append, List.nil_append, Nat.sub_zero]
  replace hss := hss.symm
  subst hss
  refine jk_aload_n (q := 6) dX12_levelledDifference_5 rfl rfl ?_
  refine jk_getA (q := 9) (k := 12) 0 0 rfl (by first | exact hx0 | exact hs.1 | exact hs.2.1 _ _ rfl | exact hfo.1 | exact hfo.2.1 _ _ rfl | exact hwa.1.1 | exact hwa.1.2.1 | exact hwa.1.2.2 | exact hsh.1.1 | exact hsh.1.2.1 | exact hhe.1.1 | exact hba.1.1 | exact hcc.1 | exact hH.1 | exact hsc.1.1 | exact hB4.1 | exact hSN.1 | assumption) (by first | assumption | exact hs.2.2.1 _ _ rfl | exact hfo.2.2.1 _ _ rfl | exact hwa.2.1.2.2.1 | exact hsh.2.1.2.1) rfl rfl jw_375 dX12_levelledDifference_6 rfl ?_
  refine jk_iload_n (q := 10) dX12_levelledDifference_9 rfl rfl ?_
  refine jk_cV1p (q := 13) (c_X9_levelled hs hr hi (cl_hasT zr)) jm_X9_levelled jw_950 rfl (by first | exact hx0 | exact hs.1 | exact hs.2.1 _ _ rfl | exact hfo.1 | exact hfo.2.1 _ _ rfl | exact hwa.1.1 | exact hwa.1.2.1 | exact hwa.1.2.2 | exact hsh.1.1 | exact hsh.1.2.1 | exact hhe.1.1 | exact hba.1.1 | exact hcc.1 | exact hH.1 | exact hsc.1.1 | exact hB4.1 | exact hSN.1 | assumption) rfl rfl rfl dX12_levelledDifference_10 rfl ?_
  exact jk_iret rfl dX12_levelledDifference_13 (by exact ln_rqI hf0 (by unfold md_q_lv; rw [ln_e1 zr]))
theorem c_X12_isUsable {G : jk_G} {n : Nat} {t : jk_T} {σ : jk_I} {ρ : jk_P} {x : Nat} {g : Int → Int} {B : Int} {p : Int} (hz : zz_ok G) (hx : zx_ok G) (hln : ln_at t ρ x) (hr : cl_rel σ (x + 2) g) (ha : md_all B g) (hnn : cl_nn σ (x + 2)) (hsi : md_sit g) (hp : jk_in p) : jk_K G yX12_isUsable mX12_isUsable 6 36 [.ref x, jI p] n t σ ρ (ln_RQ x ((md_q_us g p).1) (jI (jB (md_q_us g p).2)) σ n t ρ) (ln_RX x ((md_q_us g p).1) (ex_1 "java/lang/IndexOutOfBoundsException") σ n t ρ) := by
  obtain ⟨hx0, ⟨hx1, hx2, hx3, hx4, hx5, hx6, hx7, hx8, hx9, hx10, hx11, hx12⟩, hB4, hSN, hH, hhe, hba, hch, hsc⟩ := id hln
  obtain ⟨hcc, hwa, hsh, hwy, hyc⟩ := id hch
  obtain ⟨-, -, hfo, hfw⟩ := id hwa
  obtain ⟨-, -, -, -, hs, hsf⟩ := id hfo
  have hi := ha.1
  have hw := ha.2.1
  have hxx := ha.2.2.1
  have i0 := hi.1
  have i1 := hi.2.1
  have i2 := hi.2.2.1
  have i3 := hi.2.2.2.1
  obtain ⟨q0, q1, q2, q3⟩ := hr.1
  have hf0 : ln_fr x σ σ := fun _ _ => rfl
  refine jk_entryB (ls := [some (.ref x), some (jI p)]) jm_X12_isUsable.1 rfl rfl rfl ?_
  refine jk_aload_n (q := 1) dX12_isUsable_0 rfl rfl ?_
  refine jk_iload_n (q := 2) dX12_isUsable_1 rfl rfl ?_
  refine jk_cV1g (q := 5) (c_X12_requireLine hz hx hln hr ha hnn hsi hp) jm_X12_requireLine jw_944 rfl (by first | exact hx0 | exact hs.1 | exact hs.2.1 _ _ rfl | exact hfo.1 | exact hfo.2.1 _ _ rfl | exact hwa.1.1 | exact hwa.1.2.1 | exact hwa.1.2.2 | exact hsh.1.1 | exact hsh.1.2.1 | exact hhe.1.1 | exact hba.1.1 | exact hcc.1 | exact hH.1 | exact hsc.1.1 | exact hB4.1 | exact hSN.1 | assumption) rfl rfl (by decide) (by decide) rfl dX12_isUsable_2 rfl (fun v' n' t' σ8 ρ' hq => ?_) (fun E n' t' σ' ρ' hx9 => by
            obtain ⟨rfl, hn9, rfl, rfl, zr, rfl⟩ := hx9
            exact ln_rx hn9 hf0 (by unfold md_q_us; rw [ln_e0 zr]) (by decide) rfl)
  obtain ⟨rfl, hn9, ht9, hr9, zr, hss⟩ := hq
  replace hn9 := hn9.symm; replace ht9 := ht9.symm; replace hr9 := hr9.symm; subst hn9 ht9 hr9
  simp only [Option.toList_some, Option.toList_none, List.cons_append, List.nil_append, Nat.sub_zero]
  replace hss := hss.symm
  subst hss
  refine jk_aload_n (q := 6) dX12_isUsable_5 rfl rfl ?_
  refine jk_getA (q := 9) (k := 12) 0 0 rfl (by first | exact hx0 | exact hs.1 | exact hs.2.1 _ _ rfl | exact hfo.1 | exact hfo.2.1 _ _ rfl | exact hwa.1.1 | exact hwa.1.2.1 | exact hwa.1.2.2 | exact hsh.1.1 | exact hsh.1.2.1 | exact hhe.1.1 | exact hba.1.1 | exact hcc.1 | exact hH.1 | exact hsc.1.1 | exact hB4.1 | exact hSN.1 | assumption) (by first | assumption | exact hs.2.2.1 _ _ rfl | exact hfo.2.2.1 _ _ rfl | exact hwa.2.1.2.2.1 | exact hsh.2.1.2.1) rfl rfl jw_375 dX12_isUsable_6 rfl ?_
  refine jk_iload_n (q := 10) dX12_isUsable_9 rfl rfl ?_
  refine jk_cV1p (q := 13) (c_X9_usable hs hr hi (cl_hasT zr)) jm_X9_usable jw_965 rfl (by first | exact hx0 | exact hs.1 | exact hs.2.1 _ _ rfl | exact hfo.1 | exact hfo.2.1 _ _ rfl | exact hwa.1.1 | exact hwa.1.2.1 | exact hwa.1.2.2 | exact hsh.1.1 | exact hsh.1.2.1 | exact hhe.1.1 | exact hba.1.1 | exact hcc.1 | exact hH.1 | exact hsc.1.1 | exact hB4.1 | exact hSN.1 | assumption) rfl rfl rfl dX12_isUsable_10 rfl ?_
  exact jk_zret rfl (by first | assumption | decide | omega | exact jB_01 _ | exact jB_in _ | exact ⟨by omega, by omega⟩) dX12_isUsable_13 (by exact ln_rqB hf0 (by unfold md_q_us; rw [ln_e1 zr]) rfl)
theorem c_X12_discrepancy {G : jk_G} {n : Nat} {t : jk_T} {σ : jk_I} {ρ : jk_P} {x : Nat} {g : Int → Int} {B : Int} {p : Int} (hz : zz_ok G) (hx : zx_ok G) (hln : ln_at t ρ x) (hr : cl_rel σ (x + 2) g) (ha : md_all B g) (hnn : cl_nn σ (x + 2)) (hsi : md_sit g) (hp : jk_in p) : jk_K G yX12_discrepancy mX12_discrepancy 6 36 [.ref x, jI p] n t σ ρ (ln_RQ x ((md_q_di g p).1) (jI (md_q_di g p).2) σ n t ρ) (ln_RX x ((md_q_di g p).1) (ex_2 "java/lang/IndexOutOfBoundsException" "java/util/NoSuchElementException") σ n t ρ) := by
  obtain ⟨hx0, ⟨hx1, hx2, hx3, hx4, hx5, hx6, hx7, hx8, hx9, hx10, hx11, hx12⟩, hB4, hSN, hH, hhe, hba, hch, hsc⟩ := id hln
  obtain ⟨hcc, hwa, hsh, hwy, hyc⟩ := id hch
  obtain ⟨-, -, hfo, hfw⟩ := id hwa
  obtain ⟨-, -, -, -, hs, hsf⟩ := id hfo
  have hi := ha.1
  have hw := ha.2.1
  have hxx := ha.2.2.1
  have i0 := hi.1
  have i1 := hi.2.1
  have i2 := hi.2.2.1
  have i3 := hi.2.2.2.1
  obtain ⟨q0, q1, q2, q3⟩ := hr.1
  have hf0 : ln_fr x σ σ := fun _ _ => rfl
  refine jk_entryB (ls := [some (.ref x), some (jI p)]) jm_X12_discrepancy.1 rfl rfl rfl ?_
  refine jk_aload_n (q := 1) dX12_discrepancy_0 rfl rfl ?_
  refine jk_iload_n (q := 2) dX12_discrepancy_1 rfl rfl ?_
  refine jk_cV1g (q := 5) (c_X12_requireLine hz hx hln hr ha hnn hsi hp) jm_X12_requireLine jw_944 rfl (by first | exact hx0 | exact hs.1 | exact hs.2.1 _ _ rfl | exact hfo.1 | exact hfo.2.1 _ _ rfl | exact hwa.1.1 | exact hwa.1.2.1 | exact hwa.1.2.2 | exact hsh.1.1 | exact hsh.1.2.1 | exact hhe.1.1 | exact hba.1.1 | exact hcc.1 | exact hH.1 | exact hsc.1.1 | exact hB4.1 | exact hSN.1 | assumption) rfl rfl (by decide) (by decide) rfl dX12_discrepancy_2 rfl (fun v' n' t' σ8 ρ' hq => ?_) (fun E n' t' σ' ρ' hx9 => by
            obtain ⟨rfl, hn9, rfl, rfl, zr, rfl⟩ := hx9
            exact ln_rx hn9 hf0 (by unfold md_q_di; rw [ln_e0 zr]) (by decide) rfl)
  obtain ⟨rfl, hn9, ht9, hr9, zr, hss⟩ := hq
  replace hn9 := hn9.symm; replace ht9 := ht9.symm; replace hr9 := hr9.symm; subst hn9 ht9 hr9
  simp only [Option.toList_some, Option.toList_none, List.cons_append, List.nil_append, Nat.sub_zero]
  replace hss := hss.symm
  subst hss
  have hp9 := cl_hasT zr
  obtain ⟨l1, l2, l3, l4, l5, l6, l7, l8⟩ := hr.2.2.1 p hp9
  obtain ⟨m1, m2, m3, m4, m5, m6, m7, m8⟩ := md_inv_ln hi (l := p) ⟨by omega, by omega⟩
  refine jk_aload_n (q := 6) dX12_discrepancy_5 rfl rfl ?_
  refine jk_getA (q := 9) (k := 12) 0 0 rfl (by first | exact hx0 | exact hs.1 | exact hs.2.1 _ _ rfl | exact hfo.1 | exact hfo.2.1 _ _ rfl | exact hwa.1.1 | exact hwa.1.2.1 | exact hwa.1.2.2 | exact hsh.1.1 | exact hsh.1.2.1 | exact hhe.1.1 | exact hba.1.1 | exact hcc.1 | exact hH.1 | exact hsc.1.1 | exact hB4.1 | exact hSN.1 | assumption) (by first | assumption | exact hs.2.2.1 _ _ rfl | exact hfo.2.2.1 _ _ rfl | exact hwa.2.1.2.2.1 | exact hsh.2.1.2.1) rfl rfl jw_375 dX12_discrepancy_6 rfl ?_
  refine jk_getA (q := 12) (k := 9) 9 9 rfl (by first | exact hx0 | exact hs.1 | exact hs.2.1 _ _ rfl | exact hfo.1 | exact hfo.2.1 _ _ rfl | exact hwa.1.1 | exact hwa.1.2.1 | exact hwa.1.2.2 | exact hsh.1.1 | exact hsh.1.2.1 | exact hhe.1.1 | exact hba.1.1 | exact hcc.1 | exact hH.1 | exact hsc.1.1 | exact hB4.1 | exact hSN.1 | assumption) (by first | assumption | exact hs.2.2.1 _ _ rfl | exact hfo.2.2.1 _ _ rfl | exact hwa.2.1.2.2.1 | exact hsh.2.1.2.1) rfl rfl jw_97 dX12_discrepancy_9 rfl ?_
  refine jk_iload_n (q := 13) dX12_discrepancy_12 rfl rfl ?_
  refine jk_zaldR (q := 14) (by first | exact hx0 | exact hs.1 | exact hs.2.1 _ _ rfl | exact hfo.1 | exact hfo.2.1 _ _ rfl | exact hwa.1.1 | exact hwa.1.2.1 | exact hwa.1.2.2 | exact hsh.1.1 | exact hsh.1.2.1 | exact hhe.1.1 | exact hba.1.1 | exact hcc.1 | exact hH.1 | exact hsc.1.1 | exact hB4.1 | exact hSN.1 | assumption) (by first | exact jk_row_same _ _ _ | ((repeat rewrite [jk_row_ne _ _ (by omega)]); first | exact jk_row_same _ _ _ | rfl)) (by first | assumption | decide | omega | exact jB_01 _ | exact jB_in _ | exact ⟨by omega, by omega⟩) dX12_discrepancy_13 rfl ?_
  rw [l6]
  refine jk_if_ne (q := 27) (q2 := 17) dX12_discrepancy_14 rfl rfl (by first | assumption | decide | omega | exact jB_01 _ | exact jB_in _ | exact ⟨by omega, by omega⟩) (fun z1 => ?_) (fun z1 => ?_)
  · refine jk_aload_n (q := 28) dX12_discrepancy_27 rfl rfl ?_
    refine jk_getA (q := 31) (k := 12) 0 0 rfl (by first | exact hx0 | exact hs.1 | exact hs.2.1 _ _ rfl | exact hfo.1 | exact hfo.2.1 _ _ rfl | exact hwa.1.1 | exact hwa.1.2.1 | exact hwa.1.2.2 | exact hsh.1.1 | exact hsh.1.2.1 | exact hhe.1.1 | exact hba.1.1 | exact hcc.1 | exact hH.1 | exact hsc.1.1 | exact hB4.1 | exact hSN.1 | assumption) (by first | assumption | exact hs.2.2.1 _ _ rfl | exact hfo.2.2.1 _ _ rfl | exact hwa.2.1.2.2.1 | exact hsh.2.1.2.1) rfl rfl jw_375 dX12_discrepancy_28 rfl ?_
    refine jk_iload_n (q := 32) dX12_discrepancy_31 rfl rfl ?_
    refine jk_cV1p (q := 35) (c_X9_sumOfRuns hs hr hi hp9) jm_X9_sumOfRuns jw_960 rfl (by first | exact hx0 | exact hs.1 | exact hs.2.1 _ _ rfl | exact hfo.1 | exact hfo.2.1 _ _ rfl | exact hwa.1.1 | exact hwa.1.2.1 | exact hwa.1.2.2 | exact hsh.1.1 | exact hsh.1.2.1 | exact hhe.1.1 | exact hba.1.1 | exact hcc.1 | exact hH.1 | exact hsc.1.1 | exact hB4.1 | exact hSN.1 | assumption) rfl rfl rfl dX12_discrepancy_32 rfl ?_
    rw [l4, l5.1 (by omega)]
    exact jk_iret rfl dX12_discrepancy_35 (by exact ln_rqI hf0 (by unfold md_q_di md_gap; rw [ln_e1 zr, if_pos (by omega)]))
  · exact jk_throwX (jt_217_173 hx) rfl (by decide) (by decide) (by decide) (by decide) (by decide) dX12_discrepancy_17 dX12_discrepancy_20 dX12_discrepancy_21 dX12_discrepancy_23 dX12_discrepancy_26 (fun n' hn' => ln_rx hn' hf0 (by unfold md_q_di; rw [ln_e1 zr, if_neg (by omega)]) (by decide) rfl)
theorem c_X12_tolerance {G : jk_G} {n : Nat} {t : jk_T} {σ : jk_I} {ρ : jk_P} {x : Nat} {g : Int → Int} {B : Int} {p : Int} (hz : zz_ok G) (hx : zx_ok G) (hln : ln_at t ρ x) (hr : cl_rel σ (x + 2) g) (ha : md_all B g) (hnn : cl_nn σ (x + 2)) (hsi : md_sit g) (hp : jk_in p) : jk_K G yX12_tolerance mX12_tolerance 6 36 [.ref x, jI p] n t σ ρ (ln_RQ x ((md_q_to g p).1) (jI (md_q_to g p).2) σ n t ρ) (ln_RX x ((md_q_to g p).1) (ex_1 "java/lang/IllegalArgumentException") σ n t ρ) := by
  obtain ⟨hx0, ⟨hx1, hx2, hx3, hx4, hx5, hx6, hx7, hx8, hx9, hx10, hx11, hx12⟩, hB4, hSN, hH, hhe, hba, hch, hsc⟩ := id hln
  obtain ⟨hcc, hwa, hsh, hwy, hyc⟩ := id hch
  obtain ⟨-, -, hfo, hfw⟩ := id hwa
  obtain ⟨-, -, -, -, hs, hsf⟩ := id hfo
  have hi := ha.1
  have hw := ha.2.1
  have hxx := ha.2.2.1
  have i0 := hi.1
  have i1 := hi.2.1
  have i2 := hi.2.2.1
  have i3 := hi.2.2.2.1
  obtain ⟨q0, q1, q2, q3⟩ := hr.1
  have hf0 : ln_fr x σ σ := fun _ _ => rfl
  refine jk_entryB (ls := [some (.ref x), some (jI p)]) jm_X12_tolerance.1 rfl rfl rfl ?_
  refine jk_iload_n (q := 1) dX12_tolerance_0 rfl rfl ?_
  refine jk_iconst (q := 2) dX12_tolerance_1 rfl ?_
  refine jk_sipush (q := 5) (y := 800) dX12_tolerance_2 rfl (by decide) ?_
  refine jk_cS3p (q := 8) (c_X12_within hp (by decide) (by decide)) jm_X12_within jw_970 rfl rfl rfl dX12_tolerance_5 rfl ?_
  refine jk_ifB_ne (q := 21) (q2 := 11) dX12_tolerance_8 rfl rfl (fun z1 => ?_) (fun z1 => ?_)
  · refine jk_iload_n (q := 22) dX12_tolerance_21 rfl rfl ?_
    refine jk_cS1p (q := 25) (c_X12_toleranceFor (of_decide_eq_true z1)) jm_X12_toleranceFor jw_972 rfl rfl rfl dX12_tolerance_22 rfl ?_
    exact jk_iret rfl dX12_tolerance_25 (by exact ln_rqI hf0 (by unfold md_q_to; rw [if_neg (by show ¬ decide _ = false; rw [z1]; decide)]))
  · exact jk_throwS (jt_234_236 hx) rfl (by decide) (by decide) (by decide) (by decide) (by decide) dX12_tolerance_11 dX12_tolerance_14 dX12_tolerance_15 dX12_tolerance_17 dX12_tolerance_20 (fun n' hn' => ln_rx hn' hf0 (by unfold md_q_to; rw [if_pos (show md_in p 0 800 = false from z1)]) (by decide) rfl)
theorem c_X12_lineByDiscrepancy {G : jk_G} {n : Nat} {t : jk_T} {σ : jk_I} {ρ : jk_P} {x : Nat} {g : Int → Int} {B : Int} {p : Int} (hz : zz_ok G) (hx : zx_ok G) (hln : ln_at t ρ x) (hr : cl_rel σ (x + 2) g) (ha : md_all B g) (hnn : cl_nn σ (x + 2)) (hsi : md_sit g) (hp : jk_in p) : jk_K G yX12_lineByDiscrepancy mX12_lineByDiscrepancy 6 36 [.ref x, jI p] n t σ ρ (ln_RQ x ((md_q_ld g p).1) (jI (md_q_ld g p).2) σ n t ρ) (ln_RX x ((md_q_ld g p).1) (ex_1 "java/util/NoSuchElementException") σ n t ρ) := by
  obtain ⟨hx0, ⟨hx1, hx2, hx3, hx4, hx5, hx6, hx7, hx8, hx9, hx10, hx11, hx12⟩, hB4, hSN, hH, hhe, hba, hch, hsc⟩ := id hln
  obtain ⟨hcc, hwa, hsh, hwy, hyc⟩ := id hch
  obtain ⟨-, -, hfo, hfw⟩ := id hwa
  obtain ⟨-, -, -, -, hs, hsf⟩ := id hfo
  have hi := ha.1
  have hw := ha.2.1
  have hxx := ha.2.2.1
  have i0 := hi.1
  have i1 := hi.2.1
  have i2 := hi.2.2.1
  have i3 := hi.2.2.2.1
  obtain ⟨q0, q1, q2, q3⟩ := hr.1
  have hf0 : ln_fr x σ σ := fun _ _ => rfl
  refine jk_entryB (ls := [some (.ref x), some (jI p), none]) jm_X12_lineByDiscrepancy.1 rfl rfl rfl ?_
  refine jk_aload_n (q := 1) dX12_lineByDiscrepancy_0 rfl rfl ?_
  refine jk_getA (q := 4) (k := 12) 0 0 rfl (by first | exact hx0 | exact hs.1 | exact hs.2.1 _ _ rfl | exact hfo.1 | exact hfo.2.1 _ _ rfl | exact hwa.1.1 | exact hwa.1.2.1 | exact hwa.1.2.2 | exact hsh.1.1 | exact hsh.1.2.1 | exact hhe.1.1 | exact hba.1.1 | exact hcc.1 | exact hH.1 | exact hsc.1.1 | exact hB4.1 | exact hSN.1 | assumption) (by first | assumption | exact hs.2.2.1 _ _ rfl | exact hfo.2.2.1 _ _ rfl | exact hwa.2.1.2.2.1 | exact hsh.2.1.2.1) rfl rfl jw_375 dX12_lineByDiscrepancy_1 rfl ?_
  refine jk_iload_n (q := 5) dX12_lineByDiscrepancy_4 rfl rfl ?_
  refine jk_cV1p (q := 8) (c_X9_lineAtRank hs hr hi hp) jm_X9_lineAtRank jw_977 rfl (by first | exact hx0 | exact hs.1 | exact hs.2.1 _ _ rfl | exact hfo.1 | exact hfo.2.1 _ _ rfl | exact hwa.1.1 | exact hwa.1.2.1 | exact hwa.1.2.2 | exact hsh.1.1 | exact hsh.1.2.1 | exact hhe.1.1 | exact hba.1.1 | exact hcc.1 | exact hH.1 | exact hsc.1.1 | exact hB4.1 | exact hSN.1 | assumption) rfl rfl rfl dX12_lineByDiscrepancy_5 rfl ?_
  have hfb := jk_fnd_bd (md_ldP g p) (g 1).toNat
  refine jk_istore2 (q := 9) dX12_lineByDiscrepancy_8 rfl rfl rfl ?_
  refine jk_iload_n (q := 10) dX12_lineByDiscrepancy_9 rfl rfl ?_
  refine jk_iconst (q := 11) dX12_lineByDiscrepancy_10 rfl ?_
  refine jk_icmp_ne (q := 24) (q2 := 14) dX12_lineByDiscrepancy_11 rfl rfl (by first | assumption | decide | omega | exact jB_01 _ | exact jB_in _ | exact ⟨by omega, by omega⟩) (by first | assumption | decide | omega | exact jB_01 _ | exact jB_in _ | exact ⟨by omega, by omega⟩) (fun z1 => ?_) (fun z1 => ?_)
  · refine jk_iload_n (q := 25) dX12_lineByDiscrepancy_24 rfl rfl ?_
    exact jk_iret rfl dX12_lineByDiscrepancy_25 (by exact ln_rqI hf0 (by unfold md_q_ld; rw [if_neg (by omega)]))
  · exact jk_throwX (jt_191_173 hx) rfl (by decide) (by decide) (by decide) (by decide) (by decide) dX12_lineByDiscrepancy_14 dX12_lineByDiscrepancy_17 dX12_lineByDiscrepancy_18 dX12_lineByDiscrepancy_20 dX12_lineByDiscrepancy_23 (fun n' hn' => ln_rx hn' hf0 (by unfold md_q_ld; rw [if_pos (by omega)]) (by decide) rfl)
theorem c_X12_hasHeight {G : jk_G} {n : Nat} {t : jk_T} {σ : jk_I} {ρ : jk_P} {x : Nat} {g : Int → Int} {B : Int} {p : Int} (hz : zz_ok G) (hx : zx_ok G) (hln : ln_at t ρ x) (hr : cl_rel σ (x + 2) g) (ha : md_all B g) (hnn : cl_nn σ (x + 2)) (hsi : md_sit g) (hp : jk_in p) : jk_K G yX12_hasHeight mX12_hasHeight 6 36 [.ref x, jI p] n t σ ρ (ln_RQ x ((md_q_hh g p).1) (jI (jB (md_q_hh g p).2)) σ n t ρ) (ln_RX x ((md_q_hh g p).1) (ex_1 "java/lang/IndexOutOfBoundsException") σ n t ρ) := by
  obtain ⟨hx0, ⟨hx1, hx2, hx3, hx4, hx5, hx6, hx7, hx8, hx9, hx10, hx11, hx12⟩, hB4, hSN, hH, hhe, hba, hch, hsc⟩ := id hln
  obtain ⟨hcc, hwa, hsh, hwy, hyc⟩ := id hch
  obtain ⟨-, -, hfo, hfw⟩ := id hwa
  obtain ⟨-, -, -, -, hs, hsf⟩ := id hfo
  have hi := ha.1
  have hw := ha.2.1
  have hxx := ha.2.2.1
  have i0 := hi.1
  have i1 := hi.2.1
  have i2 := hi.2.2.1
  have i3 := hi.2.2.2.1
  obtain ⟨q0, q1, q2, q3⟩ := hr.1
  have hf0 : ln_fr x σ σ := fun _ _ => rfl
  refine jk_entryB (ls := [some (.ref x), some (jI p)]) jm_X12_hasHeight.1 rfl rfl rfl ?_
  refine jk_aload_n (q := 1) dX12_hasHeight_0 rfl rfl ?_
  refine jk_iload_n (q := 2) dX12_hasHeight_1 rfl rfl ?_
  refine jk_cV1g (q := 5) (c_X12_requireBenchmark hz hx hln hr ha hnn hsi hp) jm_X12_requireBenchmark jw_859 rfl (by first | exact hx0 | exact hs.1 | exact hs.2.1 _ _ rfl | exact hfo.1 | exact hfo.2.1 _ _ rfl | exact hwa.1.1 | exact hwa.1.2.1 | exact hwa.1.2.2 | exact hsh.1.1 | exact hsh.1.2.1 | exact hhe.1.1 | exact hba.1.1 | exact hcc.1 | exact hH.1 | exact hsc.1.1 | exact hB4.1 | exact hSN.1 | assumption) rfl rfl (by decide) (by decide) rfl dX12_hasHeight_2 rfl (fun v' n' t' σ8 ρ' hq => ?_) (fun E n' t' σ' ρ' hx9 => by
            obtain ⟨rfl, hn9, rfl, rfl, zr, rfl⟩ := hx9
            exact ln_rx hn9 hf0 (by unfold md_q_hh; rw [ln_e0 zr]) (by decide) rfl)
  obtain ⟨rfl, hn9, ht9, hr9, zr, hss⟩ := hq
  replace hn9 := hn9.symm; replace ht9 := ht9.symm; replace hr9 := hr9.symm; subst hn9 ht9 hr9
  simp only [Option.toList_some, Option.toList_none, List.cons_append, List.nil_append, Nat.sub_zero]
  replace hss := hss.symm
  subst hss
  refine jk_aload_n (q := 6) dX12_hasHeight_5 rfl rfl ?_
  refine jk_getA (q := 9) (k := 12) 5 5 rfl (by first | exact hx0 | exact hs.1 | exact hs.2.1 _ _ rfl | exact hfo.1 | exact hfo.2.1 _ _ rfl | exact hwa.1.1 | exact hwa.1.2.1 | exact hwa.1.2.2 | exact hsh.1.1 | exact hsh.1.2.1 | exact hhe.1.1 | exact hba.1.1 | exact hcc.1 | exact hH.1 | exact hsc.1.1 | exact hB4.1 | exact hSN.1 | assumption) (by first | assumption | exact hs.2.2.1 _ _ rfl | exact hfo.2.2.1 _ _ rfl | exact hwa.2.1.2.2.1 | exact hsh.2.1.2.1) rfl rfl jw_380 dX12_hasHeight_6 rfl ?_
  refine jk_cV0g (q := 12) (c_X3_find hfo hr hi hw) jm_X3_find jw_865 rfl (by first | exact hx0 | exact hs.1 | exact hs.2.1 _ _ rfl | exact hfo.1 | exact hfo.2.1 _ _ rfl | exact hwa.1.1 | exact hwa.1.2.1 | exact hwa.1.2.2 | exact hsh.1.1 | exact hsh.1.2.1 | exact hhe.1.1 | exact hba.1.1 | exact hcc.1 | exact hH.1 | exact hsc.1.1 | exact hB4.1 | exact hSN.1 | assumption) rfl rfl (Nat.zero_le _) (Nat.zero_le _) rfl dX12_hasHeight_9 rfl (fun v' n' t' σ1 ρ' hq => ?_) (fun _ _ _ _ _ h => h.elim)
  obtain ⟨rfl, hn9, ht9, hr9, hp1⟩ := hq
  replace hn9 := hn9.symm; replace ht9 := ht9.symm; replace hr9 := hr9.symm; subst hn9 ht9 hr9
  simp only [Option.toList_some, Option.toList_none, List.cons_append, List.nil_append, Nat.sub_zero]
  have hf1 : ln_fr x σ σ1 := fun a h => (hp1.1 a (by omega) (by omega) (by omega) (by omega)).trans (hf0 a h)
  have hr1 : cl_rel σ1 (x + 2) g := cl_rel_same i2.2 (fun a h1 h2 => hf1 a (Or.inl (by omega))) hr
  have ho1 := hp1.2
  refine jk_aload_n (q := 13) dX12_hasHeight_12 rfl rfl ?_
  refine jk_getA (q := 16) (k := 12) 8 8 rfl (by first | exact hx0 | exact hs.1 | exact hs.2.1 _ _ rfl | exact hfo.1 | exact hfo.2.1 _ _ rfl | exact hwa.1.1 | exact hwa.1.2.1 | exact hwa.1.2.2 | exact hsh.1.1 | exact hsh.1.2.1 | exact hhe.1.1 | exact hba.1.1 | exact hcc.1 | exact hH.1 | exact hsc.1.1 | exact hB4.1 | exact hSN.1 | assumption) (by first | assumption | exact hs.2.2.1 _ _ rfl | exact hfo.2.2.1 _ _ rfl | exact hwa.2.1.2.2.1 | exact hsh.2.1.2.1) rfl rfl jw_383 dX12_hasHeight_13 rfl ?_
  refine jk_iload_n (q := 17) dX12_hasHeight_16 rfl rfl ?_
  refine jk_cV1p (q := 20) (c_X4_exists hhe hr1 hi ho1 (cl_hasT zr)) jm_X4_exists jw_866 rfl (by first | exact hx0 | exact hs.1 | exact hs.2.1 _ _ rfl | exact hfo.1 | exact hfo.2.1 _ _ rfl | exact hwa.1.1 | exact hwa.1.2.1 | exact hwa.1.2.2 | exact hsh.1.1 | exact hsh.1.2.1 | exact hhe.1.1 | exact hba.1.1 | exact hcc.1 | exact hH.1 | exact hsc.1.1 | exact hB4.1 | exact hSN.1 | assumption) rfl rfl rfl dX12_hasHeight_17 rfl ?_
  exact jk_zret rfl (by first | assumption | decide | omega | exact jB_01 _ | exact jB_in _ | exact ⟨by omega, by omega⟩) dX12_hasHeight_20 (by exact ln_rqB hf1 (by unfold md_q_hh md_H; rw [ln_e1 zr]) rfl)
theorem c_X12_height {G : jk_G} {n : Nat} {t : jk_T} {σ : jk_I} {ρ : jk_P} {x : Nat} {g : Int → Int} {B : Int} {p : Int} (hz : zz_ok G) (hx : zx_ok G) (hln : ln_at t ρ x) (hr : cl_rel σ (x + 2) g) (ha : md_all B g) (hnn : cl_nn σ (x + 2)) (hsi : md_sit g) (hp : jk_in p) : jk_K G yX12_height mX12_height 6 36 [.ref x, jI p] n t σ ρ (ln_RQ x ((md_q_ht g p).1) (jI (md_q_ht g p).2) σ n t ρ) (ln_RX x ((md_q_ht g p).1) (ex_2 "java/lang/IndexOutOfBoundsException" "java/util/NoSuchElementException") σ n t ρ) := by
  obtain ⟨hx0, ⟨hx1, hx2, hx3, hx4, hx5, hx6, hx7, hx8, hx9, hx10, hx11, hx12⟩, hB4, hSN, hH, hhe, hba, hch, hsc⟩ := id hln
  obtain ⟨hcc, hwa, hsh, hwy, hyc⟩ := id hch
  obtain ⟨-, -, hfo, hfw⟩ := id hwa
  obtain ⟨-, -, -, -, hs, hsf⟩ := id hfo
  have hi := ha.1
  have hw := ha.2.1
  have hxx := ha.2.2.1
  have i0 := hi.1
  have i1 := hi.2.1
  have i2 := hi.2.2.1
  have i3 := hi.2.2.2.1
  obtain ⟨q0, q1, q2, q3⟩ := hr.1
  have hf0 : ln_fr x σ σ := fun _ _ => rfl
  refine jk_entryB (ls := [some (.ref x), some (jI p)]) jm_X12_height.1 rfl rfl rfl ?_
  refine jk_aload_n (q := 1) dX12_height_0 rfl rfl ?_
  refine jk_iload_n (q := 2) dX12_height_1 rfl rfl ?_
  refine jk_cV1g (q := 5) (c_X12_requireBenchmark hz hx hln hr ha hnn hsi hp) jm_X12_requireBenchmark jw_859 rfl (by first | exact hx0 | exact hs.1 | exact hs.2.1 _ _ rfl | exact hfo.1 | exact hfo.2.1 _ _ rfl | exact hwa.1.1 | exact hwa.1.2.1 | exact hwa.1.2.2 | exact hsh.1.1 | exact hsh.1.2.1 | exact hhe.1.1 | exact hba.1.1 | exact hcc.1 | exact hH.1 | exact hsc.1.1 | exact hB4.1 | exact hSN.1 | assumption) rfl rfl (by decide) (by decide) rfl dX12_height_2 rfl (fun v' n' t' σ8 ρ' hq => ?_) (fun E n' t' σ' ρ' hx9 => by
            obtain ⟨rfl, hn9, rfl, rfl, zr, rfl⟩ := hx9
            exact ln_rx hn9 hf0 (by unfold md_q_ht; rw [ln_e0 zr]) (by decide) rfl)
  obtain ⟨rfl, hn9, ht9, hr9, zr, hss⟩ := hq
  replace hn9 := hn9.symm; replace ht9 := ht9.symm; replace hr9 := hr9.symm; subst hn9 ht9 hr9
  simp only [Option.toList_some, Option.toList_none, List.cons_append, List.nil_append, Nat.sub_zero]
  replace hss := hss.symm
  subst hss
  refine jk_aload_n (q := 6) dX12_height_5 rfl rfl ?_
  refine jk_iload_n (q := 7) dX12_height_6 rfl rfl ?_
  refine jk_cV1g (q := 10) (c_X12_requireHeight (p := p) hz hx hln hr ha hnn hsi (cl_hasT zr)) jm_X12_requireHeight jw_878 rfl (by first | exact hx0 | exact hs.1 | exact hs.2.1 _ _ rfl | exact hfo.1 | exact hfo.2.1 _ _ rfl | exact hwa.1.1 | exact hwa.1.2.1 | exact hwa.1.2.2 | exact hsh.1.1 | exact hsh.1.2.1 | exact hhe.1.1 | exact hba.1.1 | exact hcc.1 | exact hH.1 | exact hsc.1.1 | exact hB4.1 | exact hSN.1 | assumption) rfl rfl (by decide) (by decide) rfl dX12_height_7 rfl (fun v' n' t' σ1 ρ' hq => ?_) (fun E n' t' σ' ρ' hx9 => by
            obtain ⟨rfl, hn9, rfl, rfl, zh, hf9⟩ := hx9
            exact ln_rx hn9 hf9 (by unfold md_q_ht md_H; rw [ln_e1 zr, if_neg (by rw [zh]; decide)]) (by decide) rfl)
  obtain ⟨rfl, hn9, ht9, hr9, zh, hf1, ho1⟩ := hq
  replace hn9 := hn9.symm; replace ht9 := ht9.symm; replace hr9 := hr9.symm; subst hn9 ht9 hr9
  simp only [Option.toList_some, Option.toList_none, List.cons_append, List.nil_append, Nat.sub_zero]
  have hr1 : cl_rel σ1 (x + 2) g := cl_rel_same i2.2 (fun a h1 h2 => hf1 a (Or.inl (by omega))) hr
  refine jk_aload_n (q := 11) dX12_height_10 rfl rfl ?_
  refine jk_getA (q := 14) (k := 12) 8 8 rfl (by first | exact hx0 | exact hs.1 | exact hs.2.1 _ _ rfl | exact hfo.1 | exact hfo.2.1 _ _ rfl | exact hwa.1.1 | exact hwa.1.2.1 | exact hwa.1.2.2 | exact hsh.1.1 | exact hsh.1.2.1 | exact hhe.1.1 | exact hba.1.1 | exact hcc.1 | exact hH.1 | exact hsc.1.1 | exact hB4.1 | exact hSN.1 | assumption) (by first | assumption | exact hs.2.2.1 _ _ rfl | exact hfo.2.2.1 _ _ rfl | exact hwa.2.1.2.2.1 | exact hsh.2.1.2.1) rfl rfl jw_383 dX12_height_11 rfl ?_
  refine jk_iload_n (q := 15) dX12_height_14 rfl rfl ?_
  refine jk_cV1g (q := 18) (c_X4_byWay hhe hr1 hi ho1 hw (cl_hasT zr) zh) jm_X4_byWay jw_883 rfl (by first | exact hx0 | exact hs.1 | exact hs.2.1 _ _ rfl | exact hfo.1 | exact hfo.2.1 _ _ rfl | exact hwa.1.1 | exact hwa.1.2.1 | exact hwa.1.2.2 | exact hsh.1.1 | exact hsh.1.2.1 | exact hhe.1.1 | exact hba.1.1 | exact hcc.1 | exact hH.1 | exact hsc.1.1 | exact hB4.1 | exact hSN.1 | assumption) rfl rfl (Nat.zero_le _) (Nat.zero_le _) rfl dX12_height_15 rfl (fun v' n' t' σ2 ρ' hq => ?_) (fun _ _ _ _ _ h => h.elim)
  obtain ⟨rfl, hn9, ht9, hr9, hp2⟩ := hq
  replace hn9 := hn9.symm; replace ht9 := ht9.symm; replace hr9 := hr9.symm; subst hn9 ht9 hr9
  simp only [Option.toList_some, Option.toList_none, List.cons_append, List.nil_append, Nat.sub_zero]
  have hf2 : ln_fr x σ σ2 := fun a h => (hp2 a (by omega)).trans (hf1 a h)
  have hr2 : cl_rel σ2 (x + 2) g := cl_rel_same i2.2 (fun a h1 h2 => hf2 a (Or.inl (by omega))) hr
  have ho2 : fo_ok σ2 (x + 512) g := fo_ok_same (fun a h1 h2 => hp2 a (by omega)) ho1
  exact jk_iret rfl dX12_height_18 (by exact ln_rqI hf2 (by unfold md_q_ht md_H; rw [ln_e1 zr, if_pos zh]))
theorem c_X12_heightByRounds {G : jk_G} {n : Nat} {t : jk_T} {σ : jk_I} {ρ : jk_P} {x : Nat} {g : Int → Int} {B : Int} {p : Int} (hz : zz_ok G) (hx : zx_ok G) (hln : ln_at t ρ x) (hr : cl_rel σ (x + 2) g) (ha : md_all B g) (hnn : cl_nn σ (x + 2)) (hsi : md_sit g) (hp : jk_in p) : jk_K G yX12_heightByRounds mX12_heightByRounds 6 36 [.ref x, jI p] n t σ ρ (ln_RQ x ((md_q_ht g p).1) (jI (md_q_ht g p).2) σ n t ρ) (ln_RX x ((md_q_ht g p).1) (ex_2 "java/lang/IndexOutOfBoundsException" "java/util/NoSuchElementException") σ n t ρ) := by
  obtain ⟨hx0, ⟨hx1, hx2, hx3, hx4, hx5, hx6, hx7, hx8, hx9, hx10, hx11, hx12⟩, hB4, hSN, hH, hhe, hba, hch, hsc⟩ := id hln
  obtain ⟨hcc, hwa, hsh, hwy, hyc⟩ := id hch
  obtain ⟨-, -, hfo, hfw⟩ := id hwa
  obtain ⟨-, -, -, -, hs, hsf⟩ := id hfo
  have hi := ha.1
  have hw := ha.2.1
  have hxx := ha.2.2.1
  have i0 := hi.1
  have i1 := hi.2.1
  have i2 := hi.2.2.1
  have i3 := hi.2.2.2.1
  obtain ⟨q0, q1, q2, q3⟩ := hr.1
  have hf0 : ln_fr x σ σ := fun _ _ => rfl
  refine jk_entryB (ls := [some (.ref x), some (jI p)]) jm_X12_heightByRounds.1 rfl rfl rfl ?_
  refine jk_aload_n (q := 1) dX12_heightByRounds_0 rfl rfl ?_
  refine jk_iload_n (q := 2) dX12_heightByRounds_1 rfl rfl ?_
  refine jk_cV1g (q := 5) (c_X12_requireBenchmark hz hx hln hr ha hnn hsi hp) jm_X12_requireBenchmark jw_859 rfl (by first | exact hx0 | exact hs.1 | exact hs.2.1 _ _ rfl | exact hfo.1 | exact hfo.2.1 _ _ rfl | exact hwa.1.1 | exact hwa.1.2.1 | exact hwa.1.2.2 | exact hsh.1.1 | exact hsh.1.2.1 | exact hhe.1.1 | exact hba.1.1 | exact hcc.1 | exact hH.1 | exact hsc.1.1 | exact hB4.1 | exact hSN.1 | assumption) rfl rfl (by decide) (by decide) rfl dX12_heightByRounds_2 rfl (fun v' n' t' σ8 ρ' hq => ?_) (fun E n' t' σ' ρ' hx9 => by
            obtain ⟨rfl, hn9, rfl, rfl, zr, rfl⟩ := hx9
            exact ln_rx hn9 hf0 (by unfold md_q_ht; rw [ln_e0 zr]) (by decide) rfl)
  obtain ⟨rfl, hn9, ht9, hr9, zr, hss⟩ := hq
  replace hn9 := hn9.symm; replace ht9 := ht9.symm; replace hr9 := hr9.symm; subst hn9 ht9 hr9
  simp only [Option.toList_some, Option.toList_none, List.cons_append, List.nil_append, Nat.sub_zero]
  replace hss := hss.symm
  subst hss
  refine jk_aload_n (q := 6) dX12_heightByRounds_5 rfl rfl ?_
  refine jk_iload_n (q := 7) dX12_heightByRounds_6 rfl rfl ?_
  refine jk_cV1g (q := 10) (c_X12_requireHeight (p := p) hz hx hln hr ha hnn hsi (cl_hasT zr)) jm_X12_requireHeight jw_878 rfl (by first | exact hx0 | exact hs.1 | exact hs.2.1 _ _ rfl | exact hfo.1 | exact hfo.2.1 _ _ rfl | exact hwa.1.1 | exact hwa.1.2.1 | exact hwa.1.2.2 | exact hsh.1.1 | exact hsh.1.2.1 | exact hhe.1.1 | exact hba.1.1 | exact hcc.1 | exact hH.1 | exact hsc.1.1 | exact hB4.1 | exact hSN.1 | assumption) rfl rfl (by decide) (by decide) rfl dX12_heightByRounds_7 rfl (fun v' n' t' σ1 ρ' hq => ?_) (fun E n' t' σ' ρ' hx9 => by
            obtain ⟨rfl, hn9, rfl, rfl, zh, hf9⟩ := hx9
            exact ln_rx hn9 hf9 (by unfold md_q_ht md_H; rw [ln_e1 zr, if_neg (by rw [zh]; decide)]) (by decide) rfl)
  obtain ⟨rfl, hn9, ht9, hr9, zh, hf1, ho1⟩ := hq
  replace hn9 := hn9.symm; replace ht9 := ht9.symm; replace hr9 := hr9.symm; subst hn9 ht9 hr9
  simp only [Option.toList_some, Option.toList_none, List.cons_append, List.nil_append, Nat.sub_zero]
  have hr1 : cl_rel σ1 (x + 2) g := cl_rel_same i2.2 (fun a h1 h2 => hf1 a (Or.inl (by omega))) hr
  refine jk_aload_n (q := 11) dX12_heightByRounds_10 rfl rfl ?_
  refine jk_getA (q := 14) (k := 12) 8 8 rfl (by first | exact hx0 | exact hs.1 | exact hs.2.1 _ _ rfl | exact hfo.1 | exact hfo.2.1 _ _ rfl | exact hwa.1.1 | exact hwa.1.2.1 | exact hwa.1.2.2 | exact hsh.1.1 | exact hsh.1.2.1 | exact hhe.1.1 | exact hba.1.1 | exact hcc.1 | exact hH.1 | exact hsc.1.1 | exact hB4.1 | exact hSN.1 | assumption) (by first | assumption | exact hs.2.2.1 _ _ rfl | exact hfo.2.2.1 _ _ rfl | exact hwa.2.1.2.2.1 | exact hsh.2.1.2.1) rfl rfl jw_383 dX12_heightByRounds_11 rfl ?_
  refine jk_iload_n (q := 15) dX12_heightByRounds_14 rfl rfl ?_
  refine jk_cV1g (q := 18) (c_X4_byRounds hhe hr1 hi ho1 hw (cl_hasT zr) zh) jm_X4_byRounds jw_900 rfl (by first | exact hx0 | exact hs.1 | exact hs.2.1 _ _ rfl | exact hfo.1 | exact hfo.2.1 _ _ rfl | exact hwa.1.1 | exact hwa.1.2.1 | exact hwa.1.2.2 | exact hsh.1.1 | exact hsh.1.2.1 | exact hhe.1.1 | exact hba.1.1 | exact hcc.1 | exact hH.1 | exact hsc.1.1 | exact hB4.1 | exact hSN.1 | assumption) rfl rfl (Nat.zero_le _) (Nat.zero_le _) rfl dX12_heightByRounds_15 rfl (fun v' n' t' σ2 ρ' hq => ?_) (fun _ _ _ _ _ h => h.elim)
  obtain ⟨rfl, hn9, ht9, hr9, hp2⟩ := hq
  replace hn9 := hn9.symm; replace ht9 := ht9.symm; replace hr9 := hr9.symm; subst hn9 ht9 hr9
  simp only [Option.toList_some, Option.toList_none, List.cons_append, List.nil_append, Nat.sub_zero]
  have hf2 : ln_fr x σ σ2 := fun a h => (hp2 a (by omega)).trans (hf1 a h)
  have hr2 : cl_rel σ2 (x + 2) g := cl_rel_same i2.2 (fun a h1 h2 => hf2 a (Or.inl (by omega))) hr
  have ho2 : fo_ok σ2 (x + 512) g := fo_ok_same (fun a h1 h2 => hp2 a (by omega)) ho1
  exact jk_iret rfl dX12_heightByRounds_18 (by exact ln_rqI hf2 (by unfold md_q_ht md_H; rw [ln_e1 zr, if_pos zh]))
theorem c_X12_datum {G : jk_G} {n : Nat} {t : jk_T} {σ : jk_I} {ρ : jk_P} {x : Nat} {g : Int → Int} {B : Int} {p : Int} (hz : zz_ok G) (hx : zx_ok G) (hln : ln_at t ρ x) (hr : cl_rel σ (x + 2) g) (ha : md_all B g) (hnn : cl_nn σ (x + 2)) (hsi : md_sit g) (hp : jk_in p) : jk_K G yX12_datum mX12_datum 6 36 [.ref x, jI p] n t σ ρ (ln_RQ x ((md_q_da g p).1) (jI (md_q_da g p).2) σ n t ρ) (ln_RX x ((md_q_da g p).1) (ex_2 "java/lang/IndexOutOfBoundsException" "java/util/NoSuchElementException") σ n t ρ) := by
  obtain ⟨hx0, ⟨hx1, hx2, hx3, hx4, hx5, hx6, hx7, hx8, hx9, hx10, hx11, hx12⟩, hB4, hSN, hH, hhe, hba, hch, hsc⟩ := id hln
  obtain ⟨hcc, hwa, hsh, hwy, hyc⟩ := id hch
  obtain ⟨-, -, hfo, hfw⟩ := id hwa
  obtain ⟨-, -, -, -, hs, hsf⟩ := id hfo
  have hi := ha.1
  have hw := ha.2.1
  have hxx := ha.2.2.1
  have i0 := hi.1
  have i1 := hi.2.1
  have i2 := hi.2.2.1
  have i3 := hi.2.2.2.1
  obtain ⟨q0, q1, q2, q3⟩ := hr.1
  have hf0 : ln_fr x σ σ := fun _ _ => rfl
  refine jk_entryB (ls := [some (.ref x), some (jI p), none]) jm_X12_datum.1 rfl rfl rfl ?_
  refine jk_aload_n (q := 1) dX12_datum_0 rfl rfl ?_
  refine jk_iload_n (q := 2) dX12_datum_1 rfl rfl ?_
  refine jk_cV1g (q := 5) (c_X12_requireBenchmark hz hx hln hr ha hnn hsi hp) jm_X12_requireBenchmark jw_859 rfl (by first | exact hx0 | exact hs.1 | exact hs.2.1 _ _ rfl | exact hfo.1 | exact hfo.2.1 _ _ rfl | exact hwa.1.1 | exact hwa.1.2.1 | exact hwa.1.2.2 | exact hsh.1.1 | exact hsh.1.2.1 | exact hhe.1.1 | exact hba.1.1 | exact hcc.1 | exact hH.1 | exact hsc.1.1 | exact hB4.1 | exact hSN.1 | assumption) rfl rfl (by decide) (by decide) rfl dX12_datum_2 rfl (fun v' n' t' σ8 ρ' hq => ?_) (fun E n' t' σ' ρ' hx9 => by
            obtain ⟨rfl, hn9, rfl, rfl, zr, rfl⟩ := hx9
            exact ln_rx hn9 hf0 (by unfold md_q_da; rw [ln_e0 zr]) (by decide) rfl)
  obtain ⟨rfl, hn9, ht9, hr9, zr, hss⟩ := hq
  replace hn9 := hn9.symm; replace ht9 := ht9.symm; replace hr9 := hr9.symm; subst hn9 ht9 hr9
  simp only [Option.toList_some, Option.toList_none, List.cons_append, List.nil_append, Nat.sub_zero]
  replace hss := hss.symm
  subst hss
  refine jk_aload_n (q := 6) dX12_datum_5 rfl rfl ?_
  refine jk_getA (q := 9) (k := 12) 5 5 rfl (by first | exact hx0 | exact hs.1 | exact hs.2.1 _ _ rfl | exact hfo.1 | exact hfo.2.1 _ _ rfl | exact hwa.1.1 | exact hwa.1.2.1 | exact hwa.1.2.2 | exact hsh.1.1 | exact hsh.1.2.1 | exact hhe.1.1 | exact hba.1.1 | exact hcc.1 | exact hH.1 | exact hsc.1.1 | exact hB4.1 | exact hSN.1 | assumption) (by first | assumption | exact hs.2.2.1 _ _ rfl | exact hfo.2.2.1 _ _ rfl | exact hwa.2.1.2.2.1 | exact hsh.2.1.2.1) rfl rfl jw_380 dX12_datum_6 rfl ?_
  refine jk_cV0g (q := 12) (c_X3_find hfo hr hi hw) jm_X3_find jw_865 rfl (by first | exact hx0 | exact hs.1 | exact hs.2.1 _ _ rfl | exact hfo.1 | exact hfo.2.1 _ _ rfl | exact hwa.1.1 | exact hwa.1.2.1 | exact hwa.1.2.2 | exact hsh.1.1 | exact hsh.1.2.1 | exact hhe.1.1 | exact hba.1.1 | exact hcc.1 | exact hH.1 | exact hsc.1.1 | exact hB4.1 | exact hSN.1 | assumption) rfl rfl (Nat.zero_le _) (Nat.zero_le _) rfl dX12_datum_9 rfl (fun v' n' t' σ1 ρ' hq => ?_) (fun _ _ _ _ _ h => h.elim)
  obtain ⟨rfl, hn9, ht9, hr9, hp1⟩ := hq
  replace hn9 := hn9.symm; replace ht9 := ht9.symm; replace hr9 := hr9.symm; subst hn9 ht9 hr9
  simp only [Option.toList_some, Option.toList_none, List.cons_append, List.nil_append, Nat.sub_zero]
  have hf1 : ln_fr x σ σ1 := fun a h => (hp1.1 a (by omega) (by omega) (by omega) (by omega)).trans (hf0 a h)
  have hr1 : cl_rel σ1 (x + 2) g := cl_rel_same i2.2 (fun a h1 h2 => hf1 a (Or.inl (by omega))) hr
  have ho1 := hp1.2
  refine jk_aload_n (q := 13) dX12_datum_12 rfl rfl ?_
  refine jk_getA (q := 16) (k := 12) 8 8 rfl (by first | exact hx0 | exact hs.1 | exact hs.2.1 _ _ rfl | exact hfo.1 | exact hfo.2.1 _ _ rfl | exact hwa.1.1 | exact hwa.1.2.1 | exact hwa.1.2.2 | exact hsh.1.1 | exact hsh.1.2.1 | exact hhe.1.1 | exact hba.1.1 | exact hcc.1 | exact hH.1 | exact hsc.1.1 | exact hB4.1 | exact hSN.1 | assumption) (by first | assumption | exact hs.2.2.1 _ _ rfl | exact hfo.2.2.1 _ _ rfl | exact hwa.2.1.2.2.1 | exact hsh.2.1.2.1) rfl rfl jw_383 dX12_datum_13 rfl ?_
  refine jk_iload_n (q := 17) dX12_datum_16 rfl rfl ?_
  refine jk_cV1p (q := 20) (c_X4_datumOf hhe hr1 hi ho1 (cl_hasT zr)) jm_X4_datumOf jw_923 rfl (by first | exact hx0 | exact hs.1 | exact hs.2.1 _ _ rfl | exact hfo.1 | exact hfo.2.1 _ _ rfl | exact hwa.1.1 | exact hwa.1.2.1 | exact hwa.1.2.2 | exact hsh.1.1 | exact hsh.1.2.1 | exact hhe.1.1 | exact hba.1.1 | exact hcc.1 | exact hH.1 | exact hsc.1.1 | exact hB4.1 | exact hSN.1 | assumption) rfl rfl rfl dX12_datum_17 rfl ?_
  have hfb := jk_fnd_bd (md_datP g (md_Ro g) p) (g 0).toNat
  have hfb2 : -1 ≤ md_dat g (md_Ro g) p ∧ md_dat g (md_Ro g) p < 10 := by unfold md_dat; omega
  refine jk_istore2 (q := 21) dX12_datum_20 rfl rfl rfl ?_
  refine jk_iload_n (q := 22) dX12_datum_21 rfl rfl ?_
  refine jk_iconst (q := 23) dX12_datum_22 rfl ?_
  refine jk_icmp_ne (q := 36) (q2 := 26) dX12_datum_23 rfl rfl (by first | assumption | decide | omega | exact jB_01 _ | exact jB_in _ | exact ⟨by omega, by omega⟩) (by first | assumption | decide | omega | exact jB_01 _ | exact jB_in _ | exact ⟨by omega, by omega⟩) (fun z1 => ?_) (fun z1 => ?_)
  · refine jk_iload_n (q := 37) dX12_datum_36 rfl rfl ?_
    exact jk_iret rfl dX12_datum_37 (by exact ln_rqI hf1 (by unfold md_q_da md_H md_hi; rw [ln_e1 zr, if_pos (decide_eq_true (by omega))]; rfl))
  · exact jk_throwX (jt_186_173 hx) rfl (by decide) (by decide) (by decide) (by decide) (by decide) dX12_datum_26 dX12_datum_29 dX12_datum_30 dX12_datum_32 dX12_datum_35 (fun n' hn' => ln_rx hn' hf1 (by unfold md_q_da md_H md_hi; rw [ln_e1 zr, if_neg (by rw [decide_eq_false (by omega)]; decide)]) (by decide) rfl)
theorem c_X12_benchmarkByHeight {G : jk_G} {n : Nat} {t : jk_T} {σ : jk_I} {ρ : jk_P} {x : Nat} {g : Int → Int} {B : Int} {p : Int} (hz : zz_ok G) (hx : zx_ok G) (hln : ln_at t ρ x) (hr : cl_rel σ (x + 2) g) (ha : md_all B g) (hnn : cl_nn σ (x + 2)) (hsi : md_sit g) (hp : jk_in p) : jk_K G yX12_benchmarkByHeight mX12_benchmarkByHeight 6 36 [.ref x, jI p] n t σ ρ (ln_RQ x ((md_q_bh g p).1) (jI (md_q_bh g p).2) σ n t ρ) (ln_RX x ((md_q_bh g p).1) (ex_1 "java/util/NoSuchElementException") σ n t ρ) := by
  obtain ⟨hx0, ⟨hx1, hx2, hx3, hx4, hx5, hx6, hx7, hx8, hx9, hx10, hx11, hx12⟩, hB4, hSN, hH, hhe, hba, hch, hsc⟩ := id hln
  obtain ⟨hcc, hwa, hsh, hwy, hyc⟩ := id hch
  obtain ⟨-, -, hfo, hfw⟩ := id hwa
  obtain ⟨-, -, -, -, hs, hsf⟩ := id hfo
  have hi := ha.1
  have hw := ha.2.1
  have hxx := ha.2.2.1
  have i0 := hi.1
  have i1 := hi.2.1
  have i2 := hi.2.2.1
  have i3 := hi.2.2.2.1
  obtain ⟨q0, q1, q2, q3⟩ := hr.1
  have hf0 : ln_fr x σ σ := fun _ _ => rfl
  refine jk_entryB (ls := [some (.ref x), some (jI p), none]) jm_X12_benchmarkByHeight.1 rfl rfl rfl ?_
  refine jk_aload_n (q := 1) dX12_benchmarkByHeight_0 rfl rfl ?_
  refine jk_getA (q := 4) (k := 12) 5 5 rfl (by first | exact hx0 | exact hs.1 | exact hs.2.1 _ _ rfl | exact hfo.1 | exact hfo.2.1 _ _ rfl | exact hwa.1.1 | exact hwa.1.2.1 | exact hwa.1.2.2 | exact hsh.1.1 | exact hsh.1.2.1 | exact hhe.1.1 | exact hba.1.1 | exact hcc.1 | exact hH.1 | exact hsc.1.1 | exact hB4.1 | exact hSN.1 | assumption) (by first | assumption | exact hs.2.2.1 _ _ rfl | exact hfo.2.2.1 _ _ rfl | exact hwa.2.1.2.2.1 | exact hsh.2.1.2.1) rfl rfl jw_380 dX12_benchmarkByHeight_1 rfl ?_
  refine jk_cV0g (q := 7) (c_X3_find hfo hr hi hw) jm_X3_find jw_865 rfl (by first | exact hx0 | exact hs.1 | exact hs.2.1 _ _ rfl | exact hfo.1 | exact hfo.2.1 _ _ rfl | exact hwa.1.1 | exact hwa.1.2.1 | exact hwa.1.2.2 | exact hsh.1.1 | exact hsh.1.2.1 | exact hhe.1.1 | exact hba.1.1 | exact hcc.1 | exact hH.1 | exact hsc.1.1 | exact hB4.1 | exact hSN.1 | assumption) rfl rfl (Nat.zero_le _) (Nat.zero_le _) rfl dX12_benchmarkByHeight_4 rfl (fun v' n' t' σ1 ρ' hq => ?_) (fun _ _ _ _ _ h => h.elim)
  obtain ⟨rfl, hn9, ht9, hr9, hp1⟩ := hq
  replace hn9 := hn9.symm; replace ht9 := ht9.symm; replace hr9 := hr9.symm; subst hn9 ht9 hr9
  simp only [Option.toList_some, Option.toList_none, List.cons_append, List.nil_append, Nat.sub_zero]
  have hf1 : ln_fr x σ σ1 := fun a h => (hp1.1 a (by omega) (by omega) (by omega) (by omega)).trans (hf0 a h)
  have hr1 : cl_rel σ1 (x + 2) g := cl_rel_same i2.2 (fun a h1 h2 => hf1 a (Or.inl (by omega))) hr
  have ho1 := hp1.2
  refine jk_aload_n (q := 8) dX12_benchmarkByHeight_7 rfl rfl ?_
  refine jk_getA (q := 11) (k := 12) 8 8 rfl (by first | exact hx0 | exact hs.1 | exact hs.2.1 _ _ rfl | exact hfo.1 | exact hfo.2.1 _ _ rfl | exact hwa.1.1 | exact hwa.1.2.1 | exact hwa.1.2.2 | exact hsh.1.1 | exact hsh.1.2.1 | exact hhe.1.1 | exact hba.1.1 | exact hcc.1 | exact hH.1 | exact hsc.1.1 | exact hB4.1 | exact hSN.1 | assumption) (by first | assumption | exact hs.2.2.1 _ _ rfl | exact hfo.2.2.1 _ _ rfl | exact hwa.2.1.2.2.1 | exact hsh.2.1.2.1) rfl rfl jw_383 dX12_benchmarkByHeight_8 rfl ?_
  refine jk_iload_n (q := 12) dX12_benchmarkByHeight_11 rfl rfl ?_
  refine jk_cV1g (q := 15) (c_X4_atRank hhe hr1 hi ho1 hw hp) jm_X4_atRank jw_929 rfl (by first | exact hx0 | exact hs.1 | exact hs.2.1 _ _ rfl | exact hfo.1 | exact hfo.2.1 _ _ rfl | exact hwa.1.1 | exact hwa.1.2.1 | exact hwa.1.2.2 | exact hsh.1.1 | exact hsh.1.2.1 | exact hhe.1.1 | exact hba.1.1 | exact hcc.1 | exact hH.1 | exact hsc.1.1 | exact hB4.1 | exact hSN.1 | assumption) rfl rfl (Nat.zero_le _) (Nat.zero_le _) rfl dX12_benchmarkByHeight_12 rfl (fun v' n' t' σ2 ρ' hq => ?_) (fun _ _ _ _ _ h => h.elim)
  obtain ⟨rfl, hn9, ht9, hr9, hp2⟩ := hq
  replace hn9 := hn9.symm; replace ht9 := ht9.symm; replace hr9 := hr9.symm; subst hn9 ht9 hr9
  simp only [Option.toList_some, Option.toList_none, List.cons_append, List.nil_append, Nat.sub_zero]
  have hf2 : ln_fr x σ σ2 := fun a h => (hp2 a (by omega)).trans (hf1 a h)
  have hr2 : cl_rel σ2 (x + 2) g := cl_rel_same i2.2 (fun a h1 h2 => hf2 a (Or.inl (by omega))) hr
  have ho2 : fo_ok σ2 (x + 512) g := fo_ok_same (fun a h1 h2 => hp2 a (by omega)) ho1
  have hfb := jk_fnd_bd (md_bhP g p) (g 0).toNat
  refine jk_istore2 (q := 16) dX12_benchmarkByHeight_15 rfl rfl rfl ?_
  refine jk_iload_n (q := 17) dX12_benchmarkByHeight_16 rfl rfl ?_
  refine jk_iconst (q := 18) dX12_benchmarkByHeight_17 rfl ?_
  refine jk_icmp_ne (q := 31) (q2 := 21) dX12_benchmarkByHeight_18 rfl rfl (by first | assumption | decide | omega | exact jB_01 _ | exact jB_in _ | exact ⟨by omega, by omega⟩) (by first | assumption | decide | omega | exact jB_01 _ | exact jB_in _ | exact ⟨by omega, by omega⟩) (fun z1 => ?_) (fun z1 => ?_)
  · refine jk_iload_n (q := 32) dX12_benchmarkByHeight_31 rfl rfl ?_
    exact jk_iret rfl dX12_benchmarkByHeight_32 (by exact ln_rqI hf2 (by unfold md_q_bh; rw [if_neg (by omega)]))
  · exact jk_throwX (jt_191_173 hx) rfl (by decide) (by decide) (by decide) (by decide) (by decide) dX12_benchmarkByHeight_21 dX12_benchmarkByHeight_24 dX12_benchmarkByHeight_25 dX12_benchmarkByHeight_27 dX12_benchmarkByHeight_30 (fun n' hn' => ln_rx hn' hf2 (by unfold md_q_bh; rw [if_pos (by omega)]) (by decide) rfl)
theorem c_X12_closingError {G : jk_G} {n : Nat} {t : jk_T} {σ : jk_I} {ρ : jk_P} {x : Nat} {g : Int → Int} {B : Int} {p : Int} (hz : zz_ok G) (hx : zx_ok G) (hln : ln_at t ρ x) (hr : cl_rel σ (x + 2) g) (ha : md_all B g) (hnn : cl_nn σ (x + 2)) (hsi : md_sit g) (hp : jk_in p) : jk_K G yX12_closingError mX12_closingError 6 36 [.ref x, jI p] n t σ ρ (ln_RQ x ((md_q_ce g p).1) (jI (md_q_ce g p).2) σ n t ρ) (ln_RX x ((md_q_ce g p).1) (ex_2 "java/lang/IndexOutOfBoundsException" "java/util/NoSuchElementException") σ n t ρ) := by
  obtain ⟨hx0, ⟨hx1, hx2, hx3, hx4, hx5, hx6, hx7, hx8, hx9, hx10, hx11, hx12⟩, hB4, hSN, hH, hhe, hba, hch, hsc⟩ := id hln
  obtain ⟨hcc, hwa, hsh, hwy, hyc⟩ := id hch
  obtain ⟨-, -, hfo, hfw⟩ := id hwa
  obtain ⟨-, -, -, -, hs, hsf⟩ := id hfo
  have hi := ha.1
  have hw := ha.2.1
  have hxx := ha.2.2.1
  have i0 := hi.1
  have i1 := hi.2.1
  have i2 := hi.2.2.1
  have i3 := hi.2.2.2.1
  obtain ⟨q0, q1, q2, q3⟩ := hr.1
  have hf0 : ln_fr x σ σ := fun _ _ => rfl
  refine jk_entryB (ls := [some (.ref x), some (jI p)]) jm_X12_closingError.1 rfl rfl rfl ?_
  refine jk_aload_n (q := 1) dX12_closingError_0 rfl rfl ?_
  refine jk_iload_n (q := 2) dX12_closingError_1 rfl rfl ?_
  refine jk_cV1g (q := 5) (c_X12_requireBenchmark hz hx hln hr ha hnn hsi hp) jm_X12_requireBenchmark jw_859 rfl (by first | exact hx0 | exact hs.1 | exact hs.2.1 _ _ rfl | exact hfo.1 | exact hfo.2.1 _ _ rfl | exact hwa.1.1 | exact hwa.1.2.1 | exact hwa.1.2.2 | exact hsh.1.1 | exact hsh.1.2.1 | exact hhe.1.1 | exact hba.1.1 | exact hcc.1 | exact hH.1 | exact hsc.1.1 | exact hB4.1 | exact hSN.1 | assumption) rfl rfl (by decide) (by decide) rfl dX12_closingError_2 rfl (fun v' n' t' σ8 ρ' hq => ?_) (fun E n' t' σ' ρ' hx9 => by
            obtain ⟨rfl, hn9, rfl, rfl, zr, rfl⟩ := hx9
            exact ln_rx hn9 hf0 (by unfold md_q_ce; rw [ln_e0 zr]) (by decide) rfl)
  obtain ⟨rfl, hn9, ht9, hr9, zr, hss⟩ := hq
  replace hn9 := hn9.symm; replace ht9 := ht9.symm; replace hr9 := hr9.symm; subst hn9 ht9 hr9
  simp only [Option.toList_some, Option.toList_none, List.cons_append, List.nil_append, Nat.sub_zero]
  replace hss := hss.symm
  subst hss
  have hp9 := cl_hasT zr
  obtain ⟨b1, b3⟩ := hr.2.1 p hp9
  have b2 := (md_inv_pt hi (p := p) ⟨by omega, by omega⟩).1
  refine jk_aload_n (q := 6) dX12_closingError_5 rfl rfl ?_
  refine jk_getA (q := 9) (k := 12) 0 0 rfl (by first | exact hx0 | exact hs.1 | exact hs.2.1 _ _ rfl | exact hfo.1 | exact hfo.2.1 _ _ rfl | exact hwa.1.1 | exact hwa.1.2.1 | exact hwa.1.2.2 | exact hsh.1.1 | exact hsh.1.2.1 | exact hhe.1.1 | exact hba.1.1 | exact hcc.1 | exact hH.1 | exact hsc.1.1 | exact hB4.1 | exact hSN.1 | assumption) (by first | assumption | exact hs.2.2.1 _ _ rfl | exact hfo.2.2.1 _ _ rfl | exact hwa.2.1.2.2.1 | exact hsh.2.1.2.1) rfl rfl jw_375 dX12_closingError_6 rfl ?_
  refine jk_getA (q := 12) (k := 9) 1 1 rfl (by first | exact hx0 | exact hs.1 | exact hs.2.1 _ _ rfl | exact hfo.1 | exact hfo.2.1 _ _ rfl | exact hwa.1.1 | exact hwa.1.2.1 | exact hwa.1.2.2 | exact hsh.1.1 | exact hsh.1.2.1 | exact hhe.1.1 | exact hba.1.1 | exact hcc.1 | exact hH.1 | exact hsc.1.1 | exact hB4.1 | exact hSN.1 | assumption) (by first | assumption | exact hs.2.2.1 _ _ rfl | exact hfo.2.2.1 _ _ rfl | exact hwa.2.1.2.2.1 | exact hsh.2.1.2.1) rfl rfl jw_62 dX12_closingError_9 rfl ?_
  refine jk_iload_n (q := 13) dX12_closingError_12 rfl rfl ?_
  refine jk_zaldR (q := 14) (by first | exact hx0 | exact hs.1 | exact hs.2.1 _ _ rfl | exact hfo.1 | exact hfo.2.1 _ _ rfl | exact hwa.1.1 | exact hwa.1.2.1 | exact hwa.1.2.2 | exact hsh.1.1 | exact hsh.1.2.1 | exact hhe.1.1 | exact hba.1.1 | exact hcc.1 | exact hH.1 | exact hsc.1.1 | exact hB4.1 | exact hSN.1 | assumption) (by first | exact jk_row_same _ _ _ | ((repeat rewrite [jk_row_ne _ _ (by omega)]); first | exact jk_row_same _ _ _ | rfl)) (by first | assumption | decide | omega | exact jB_01 _ | exact jB_in _ | exact ⟨by omega, by omega⟩) dX12_closingError_13 rfl ?_
  rw [b1]
  refine jk_if_ne (q := 27) (q2 := 17) dX12_closingError_14 rfl rfl (by first | assumption | decide | omega | exact jB_01 _ | exact jB_in _ | exact ⟨by omega, by omega⟩) (fun z1 => ?_) (fun z1 => ?_)
  · refine jk_aload_n (q := 28) dX12_closingError_27 rfl rfl ?_
    refine jk_getA (q := 31) (k := 12) 5 5 rfl (by first | exact hx0 | exact hs.1 | exact hs.2.1 _ _ rfl | exact hfo.1 | exact hfo.2.1 _ _ rfl | exact hwa.1.1 | exact hwa.1.2.1 | exact hwa.1.2.2 | exact hsh.1.1 | exact hsh.1.2.1 | exact hhe.1.1 | exact hba.1.1 | exact hcc.1 | exact hH.1 | exact hsc.1.1 | exact hB4.1 | exact hSN.1 | assumption) (by first | assumption | exact hs.2.2.1 _ _ rfl | exact hfo.2.2.1 _ _ rfl | exact hwa.2.1.2.2.1 | exact hsh.2.1.2.1) rfl rfl jw_380 dX12_closingError_28 rfl ?_
    refine jk_cV0g (q := 34) (c_X3_find hfo hr hi hw) jm_X3_find jw_865 rfl (by first | exact hx0 | exact hs.1 | exact hs.2.1 _ _ rfl | exact hfo.1 | exact hfo.2.1 _ _ rfl | exact hwa.1.1 | exact hwa.1.2.1 | exact hwa.1.2.2 | exact hsh.1.1 | exact hsh.1.2.1 | exact hhe.1.1 | exact hba.1.1 | exact hcc.1 | exact hH.1 | exact hsc.1.1 | exact hB4.1 | exact hSN.1 | assumption) rfl rfl (Nat.zero_le _) (Nat.zero_le _) rfl dX12_closingError_31 rfl (fun v' n' t' σ1 ρ' hq => ?_) (fun _ _ _ _ _ h => h.elim)
    obtain ⟨rfl, hn9, ht9, hr9, hp1⟩ := hq
    replace hn9 := hn9.symm; replace ht9 := ht9.symm; replace hr9 := hr9.symm; subst hn9 ht9 hr9
    simp only [Option.toList_some, Option.toList_none, List.cons_append, List.nil_append, Nat.sub_zero]
    have hf1 : ln_fr x σ σ1 := fun a h => (hp1.1 a (by omega) (by omega) (by omega) (by omega)).trans (hf0 a h)
    have hr1 : cl_rel σ1 (x + 2) g := cl_rel_same i2.2 (fun a h1 h2 => hf1 a (Or.inl (by omega))) hr
    have ho1 := hp1.2
    refine jk_aload_n (q := 35) dX12_closingError_34 rfl rfl ?_
    refine jk_getA (q := 38) (k := 12) 8 8 rfl (by first | exact hx0 | exact hs.1 | exact hs.2.1 _ _ rfl | exact hfo.1 | exact hfo.2.1 _ _ rfl | exact hwa.1.1 | exact hwa.1.2.1 | exact hwa.1.2.2 | exact hsh.1.1 | exact hsh.1.2.1 | exact hhe.1.1 | exact hba.1.1 | exact hcc.1 | exact hH.1 | exact hsc.1.1 | exact hB4.1 | exact hSN.1 | assumption) (by first | assumption | exact hs.2.2.1 _ _ rfl | exact hfo.2.2.1 _ _ rfl | exact hwa.2.1.2.2.1 | exact hsh.2.1.2.1) rfl rfl jw_383 dX12_closingError_35 rfl ?_
    refine jk_iload_n (q := 39) dX12_closingError_38 rfl rfl ?_
    refine jk_cV1g (q := 42) (c_X4_carriedFromDatum hhe hr1 hi ho1 hw (cl_hasT zr)) jm_X4_carriedFromDatum jw_918 rfl (by first | exact hx0 | exact hs.1 | exact hs.2.1 _ _ rfl | exact hfo.1 | exact hfo.2.1 _ _ rfl | exact hwa.1.1 | exact hwa.1.2.1 | exact hwa.1.2.2 | exact hsh.1.1 | exact hsh.1.2.1 | exact hhe.1.1 | exact hba.1.1 | exact hcc.1 | exact hH.1 | exact hsc.1.1 | exact hB4.1 | exact hSN.1 | assumption) rfl rfl (Nat.zero_le _) (Nat.zero_le _) rfl dX12_closingError_39 rfl (fun v' n' t' σ2 ρ' hq => ?_) (fun _ _ _ _ _ h => h.elim)
    obtain ⟨rfl, hn9, ht9, hr9, hp2⟩ := hq
    replace hn9 := hn9.symm; replace ht9 := ht9.symm; replace hr9 := hr9.symm; subst hn9 ht9 hr9
    simp only [Option.toList_some, Option.toList_none, List.cons_append, List.nil_append, Nat.sub_zero]
    have hf2 : ln_fr x σ σ2 := fun a h => (hp2 a (by omega)).trans (hf1 a h)
    have hr2 : cl_rel σ2 (x + 2) g := cl_rel_same i2.2 (fun a h1 h2 => hf2 a (Or.inl (by omega))) hr
    have ho2 : fo_ok σ2 (x + 512) g := fo_ok_same (fun a h1 h2 => hp2 a (by omega)) ho1
    have hdn : md_dat g (md_Ro g) p ≠ -1 := ln_dat_fix hp9 (by omega)
    rw [if_neg hdn]
    refine jk_aload_n (q := 43) dX12_closingError_42 rfl rfl ?_
    refine jk_getA (q := 46) (k := 12) 0 0 rfl (by first | exact hx0 | exact hs.1 | exact hs.2.1 _ _ rfl | exact hfo.1 | exact hfo.2.1 _ _ rfl | exact hwa.1.1 | exact hwa.1.2.1 | exact hwa.1.2.2 | exact hsh.1.1 | exact hsh.1.2.1 | exact hhe.1.1 | exact hba.1.1 | exact hcc.1 | exact hH.1 | exact hsc.1.1 | exact hB4.1 | exact hSN.1 | assumption) (by first | assumption | exact hs.2.2.1 _ _ rfl | exact hfo.2.2.1 _ _ rfl | exact hwa.2.1.2.2.1 | exact hsh.2.1.2.1) rfl rfl jw_375 dX12_closingError_43 rfl ?_
    refine jk_getA (q := 49) (k := 9) 2 2 rfl (by first | exact hx0 | exact hs.1 | exact hs.2.1 _ _ rfl | exact hfo.1 | exact hfo.2.1 _ _ rfl | exact hwa.1.1 | exact hwa.1.2.1 | exact hwa.1.2.2 | exact hsh.1.1 | exact hsh.1.2.1 | exact hhe.1.1 | exact hba.1.1 | exact hcc.1 | exact hH.1 | exact hsc.1.1 | exact hB4.1 | exact hSN.1 | assumption) (by first | assumption | exact hs.2.2.1 _ _ rfl | exact hfo.2.2.1 _ _ rfl | exact hwa.2.1.2.2.1 | exact hsh.2.1.2.1) rfl rfl jw_66 dX12_closingError_46 rfl ?_
    refine jk_iload_n (q := 50) dX12_closingError_49 rfl rfl ?_
    refine jk_ialdR (q := 51) (by first | exact hx0 | exact hs.1 | exact hs.2.1 _ _ rfl | exact hfo.1 | exact hfo.2.1 _ _ rfl | exact hwa.1.1 | exact hwa.1.2.1 | exact hwa.1.2.2 | exact hsh.1.1 | exact hsh.1.2.1 | exact hhe.1.1 | exact hba.1.1 | exact hcc.1 | exact hH.1 | exact hsc.1.1 | exact hB4.1 | exact hSN.1 | assumption) (by first | exact jk_row_same _ _ _ | ((repeat rewrite [jk_row_ne _ _ (by omega)]); first | exact jk_row_same _ _ _ | rfl)) (by first | assumption | decide | omega | exact jB_01 _ | exact jB_in _ | exact ⟨by omega, by omega⟩) dX12_closingError_50 rfl ?_
    rw [show σ2 (x + 2 + 4) p = g (14 + p) from (hr2.2.1 p hp9).2 (by omega)]
    refine jk_isub (q := 52) dX12_closingError_51 rfl ?_
    exact jk_iret rfl dX12_closingError_52 (by exact ln_rqI hf2 (by unfold md_q_ce; rw [ln_e1 zr, if_neg (by omega)]))
  · exact jk_throwX (jt_171_173 hx) rfl (by decide) (by decide) (by decide) (by decide) (by decide) dX12_closingError_17 dX12_closingError_20 dX12_closingError_21 dX12_closingError_23 dX12_closingError_26 (fun n' hn' => ln_rx hn' hf0 (by unfold md_q_ce; rw [ln_e1 zr, if_pos (by omega)]) (by decide) rfl)
end E2
