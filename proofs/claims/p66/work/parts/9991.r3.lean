section R3
theorem c_X12_renderBenchmark {G : jk_G} {n : Nat} {t : jk_T} {σ : jk_I} {ρ : jk_P} {x : Nat} {g : Int → Int} {B : Int} {p : Int} {v K : Nat} {L : List Int} (hz : zz_ok G) (hx : zx_ok G) (hln : ln_at t ρ x) (hr : cl_rel σ (x + 2) g) (ha : md_all B g) (hnn : cl_nn σ (x + 2)) (hsi : md_sit g) (hzp : zp_ok G) (hbd : bd_is t ρ σ (x + 578) v K L) (hn : x + 582 ≤ n) (hv9 : v = x + 580 ∨ x + 582 ≤ v) (hvn : v < n) (hp : jk_in p) : jk_K G yX12_renderBenchmark mX12_renderBenchmark 7 200 [.ref x, jI p] n t σ ρ (wr_Q x v n t σ ρ (cl_has (g 0) p) (md_rnb g p)) (wr_X x n t σ ρ (cl_has (g 0) p)) := by
  obtain ⟨hx0, ⟨hx1, hx2, hx3, hx4, hx5, hx6, hx7, hx8, hx9, hx10, hx11, hx12⟩, hB4, hSN, hH, hhe, hba, hch, hsc⟩ := id hln
  obtain ⟨hcc, hwa, hsh, hwy, hyc⟩ := id hch
  obtain ⟨-, -, hfo, hfw⟩ := id hwa
  obtain ⟨-, -, -, -, hs, hsf⟩ := id hfo
  have hi := ha.1
  have hw := ha.2.1
  have hxx := ha.2.2.1
  have i0 := hi.1
  have i1 := hi.2.1
  have i2 := hi.2.2.1
  have i3 := hi.2.2.2.1
  obtain ⟨q0, q1, q2, q3⟩ := hr.1
  have hf0 : ln_fr x σ σ := fun _ _ => rfl
  refine jk_entryB (ls := [some (.ref x), some (jI p)]) jm_X12_renderBenchmark.1 rfl rfl rfl ?_
  refine jk_aload_n (q := 1) dX12_renderBenchmark_0 rfl rfl ?_
  refine jk_iload_n (q := 2) dX12_renderBenchmark_1 rfl rfl ?_
  refine jk_cV1g (q := 5) (c_X12_requireBenchmark hz hx hln hr ha hnn hsi hp) jm_X12_requireBenchmark jw_859 rfl (by first | exact hx0 | exact hs.1 | exact hs.2.1 _ _ rfl | exact hfo.1 | exact hfo.2.1 _ _ rfl | exact hwa.1.1 | exact hwa.1.2.1 | exact hwa.1.2.2 | exact hsh.1.1 | exact hsh.1.2.1 | exact hhe.1.1 | exact hba.1.1 | exact hcc.1 | exact hH.1 | exact hsc.1.1 | exact hB4.1 | exact hSN.1 | exact hbd.1.1 | exact hr9 | assumption) rfl rfl (by decide) (by decide) rfl dX12_renderBenchmark_2 rfl (fun v' n' t' σ8 ρ' hq => ?_) (fun E n' t' σ' ρ' hx9 => by
            obtain ⟨rfl, hn9, rfl, rfl, zr, rfl⟩ := hx9
            exact ⟨zr, rfl, hn9, rfl, rfl, hf0⟩)
  obtain ⟨rfl, hn9, ht9, hr9, zr, hss⟩ := hq
  replace hn9 := hn9.symm; replace ht9 := ht9.symm; replace hr9 := hr9.symm; subst hn9 ht9 hr9
  simp only [Option.toList_some, Option.toList_none, List.cons_append, List.nil_append, Nat.sub_zero]
  replace hss := hss.symm
  subst hss
  have hp9 := cl_hasT zr
  have hfx := (md_inv_pt hi (p := p) ⟨by omega, by omega⟩).1
  have d1 := dg_len_le (v := p) (k := 2) (by decide) (by unfold md_abs; split <;> (show _ < (100 : Int)) <;> omega)
  refine jk_aload_n (q := 6) dX12_renderBenchmark_5 rfl rfl ?_
  refine jk_getA (q := 9) (k := 12) 5 5 rfl (by first | exact hx0 | exact hs.1 | exact hs.2.1 _ _ rfl | exact hfo.1 | exact hfo.2.1 _ _ rfl | exact hwa.1.1 | exact hwa.1.2.1 | exact hwa.1.2.2 | exact hsh.1.1 | exact hsh.1.2.1 | exact hhe.1.1 | exact hba.1.1 | exact hcc.1 | exact hH.1 | exact hsc.1.1 | exact hB4.1 | exact hSN.1 | exact hbd.1.1 | exact hr9 | assumption) (by first | assumption | exact hs.2.2.1 _ _ rfl | exact hfo.2.2.1 _ _ rfl | exact hwa.2.1.2.2.1 | exact hsh.2.1.2.1) rfl rfl jw_380 dX12_renderBenchmark_6 rfl ?_
  refine jk_cV0g (q := 12) (c_X3_find hfo hr hi hw) jm_X3_find jw_865 rfl (by first | exact hx0 | exact hs.1 | exact hs.2.1 _ _ rfl | exact hfo.1 | exact hfo.2.1 _ _ rfl | exact hwa.1.1 | exact hwa.1.2.1 | exact hwa.1.2.2 | exact hsh.1.1 | exact hsh.1.2.1 | exact hhe.1.1 | exact hba.1.1 | exact hcc.1 | exact hH.1 | exact hsc.1.1 | exact hB4.1 | exact hSN.1 | exact hbd.1.1 | exact hr9 | assumption) rfl rfl (Nat.zero_le _) (Nat.zero_le _) rfl dX12_renderBenchmark_9 rfl (fun v' n' t' σ1 ρ' hq => ?_) (fun _ _ _ _ _ h => h.elim)
  obtain ⟨rfl, hn9, ht9, hr9, hp1⟩ := hq
  replace hn9 := hn9.symm; replace ht9 := ht9.symm; replace hr9 := hr9.symm; subst hn9 ht9 hr9
  simp only [Option.toList_some, Option.toList_none, List.cons_append, List.nil_append, Nat.sub_zero]
  have hf1 : ln_fr x σ σ1 := fun a h => (hp1.1 a (by omega) (by omega) (by omega) (by omega)).trans (hf0 a h)
  have hr1 : cl_rel σ1 (x + 2) g := cl_rel_same i2.2 (fun a h1 h2 => hf1 a (Or.inl (by omega))) hr
  have ho1 := hp1.2
  have hst := rd_0 hn hv9 hvn hbd hln hf1 hr1 ho1
  obtain ⟨hbd, hwf, hln, hr, ho⟩ := id hst
  obtain ⟨hx0, ⟨hx1, hx2, hx3, hx4, hx5, hx6, hx7, hx8, hx9, hx10, hx11, hx12⟩, hB4, hSN, hH, hhe, hba, hch, hsc⟩ := id hln
  obtain ⟨hcc, hwa, hsh, hwy, hyc⟩ := id hch
  obtain ⟨-, -, hfo, hfw⟩ := id hwa
  obtain ⟨-, -, -, -, hs, hsf⟩ := id hfo
  have hwn := hwf.2.1
  have hnn9 := hwf.2.2.1
  refine jk_aload_n (q := 13) dX12_renderBenchmark_12 rfl rfl ?_
  refine jk_getA (q := 16) (k := 12) 12 12 rfl (by first | exact hx0 | exact hs.1 | exact hs.2.1 _ _ rfl | exact hfo.1 | exact hfo.2.1 _ _ rfl | exact hwa.1.1 | exact hwa.1.2.1 | exact hwa.1.2.2 | exact hsh.1.1 | exact hsh.1.2.1 | exact hhe.1.1 | exact hba.1.1 | exact hcc.1 | exact hH.1 | exact hsc.1.1 | exact hB4.1 | exact hSN.1 | exact hbd.1.1 | exact hr9 | assumption) (by first | assumption | exact hs.2.2.1 _ _ rfl | exact hfo.2.2.1 _ _ rfl | exact hwa.2.1.2.2.1 | exact hsh.2.1.2.1) rfl rfl jw_387 dX12_renderBenchmark_13 rfl ?_
  refine jk_iconst (q := 17) dX12_renderBenchmark_16 rfl ?_
  refine jk_cV1g (q := 20) (c_J4_setLength_d00df (b := x + 578) hbd hzp (by omega) (by omega)) jm_J4_setLength_d00df jw_1199 rfl (by first | exact hx0 | exact hs.1 | exact hs.2.1 _ _ rfl | exact hfo.1 | exact hfo.2.1 _ _ rfl | exact hwa.1.1 | exact hwa.1.2.1 | exact hwa.1.2.2 | exact hsh.1.1 | exact hsh.1.2.1 | exact hhe.1.1 | exact hba.1.1 | exact hcc.1 | exact hH.1 | exact hsc.1.1 | exact hB4.1 | exact hSN.1 | exact hbd.1.1 | exact hr9 | assumption) rfl rfl (by decide) (by decide) rfl dX12_renderBenchmark_17 rfl (fun v' n2 t2 σ2 ρ2 hq => ?_) (fun _ _ _ _ _ h => h.elim)
  obtain ⟨rfl, w2, K2, hb9, -, hf9⟩ := hq
  simp only [Option.toList_some, Option.toList_none, List.cons_append, List.nil_append]
  have hst := rd_S i2.2 hn hv9 hst hb9 hf9
  obtain ⟨hbd, hwf, hln, hr, ho⟩ := id hst
  obtain ⟨hx0, ⟨hx1, hx2, hx3, hx4, hx5, hx6, hx7, hx8, hx9, hx10, hx11, hx12⟩, hB4, hSN, hH, hhe, hba, hch, hsc⟩ := id hln
  obtain ⟨hcc, hwa, hsh, hwy, hyc⟩ := id hch
  obtain ⟨-, -, hfo, hfw⟩ := id hwa
  obtain ⟨-, -, -, -, hs, hsf⟩ := id hfo
  have hwn := hwf.2.1
  have hnn9 := hwf.2.2.1
  refine jk_aload_n (q := 21) dX12_renderBenchmark_20 rfl rfl ?_
  refine jk_getA (q := 24) (k := 12) 12 12 rfl (by first | exact hx0 | exact hs.1 | exact hs.2.1 _ _ rfl | exact hfo.1 | exact hfo.2.1 _ _ rfl | exact hwa.1.1 | exact hwa.1.2.1 | exact hwa.1.2.2 | exact hsh.1.1 | exact hsh.1.2.1 | exact hhe.1.1 | exact hba.1.1 | exact hcc.1 | exact hH.1 | exact hsc.1.1 | exact hB4.1 | exact hSN.1 | exact hbd.1.1 | exact hr9 | assumption) (by first | assumption | exact hs.2.2.1 _ _ rfl | exact hfo.2.2.1 _ _ rfl | exact hwa.2.1.2.2.1 | exact hsh.2.1.2.1) rfl rfl jw_387 dX12_renderBenchmark_21 rfl ?_
  refine jk_iload_n (q := 25) dX12_renderBenchmark_24 rfl rfl ?_
  refine jk_cV1g (q := 28) (c_J4_append_bf812 (b := x + 578) hbd hz hzp (by omega) (by omega) (x := p) (by omega) (by simp only [List.length_append, List.length_cons, List.length_nil]; omega)) jm_J4_append_bf812 jw_1470 rfl (by first | exact hx0 | exact hs.1 | exact hs.2.1 _ _ rfl | exact hfo.1 | exact hfo.2.1 _ _ rfl | exact hwa.1.1 | exact hwa.1.2.1 | exact hwa.1.2.2 | exact hsh.1.1 | exact hsh.1.2.1 | exact hhe.1.1 | exact hba.1.1 | exact hcc.1 | exact hH.1 | exact hsc.1.1 | exact hB4.1 | exact hSN.1 | exact hbd.1.1 | exact hr9 | assumption) rfl rfl (by decide) (by decide) rfl dX12_renderBenchmark_25 rfl (fun v' n3 t3 σ3 ρ3 hq => ?_) (fun _ _ _ _ _ h => h.elim)
  obtain ⟨rfl, w3, K3, hb9, -, hf9⟩ := hq
  simp only [Option.toList_some, Option.toList_none, List.cons_append, List.nil_append]
  have hst := rd_S i2.2 hn hv9 hst hb9 hf9
  obtain ⟨hbd, hwf, hln, hr, ho⟩ := id hst
  obtain ⟨hx0, ⟨hx1, hx2, hx3, hx4, hx5, hx6, hx7, hx8, hx9, hx10, hx11, hx12⟩, hB4, hSN, hH, hhe, hba, hch, hsc⟩ := id hln
  obtain ⟨hcc, hwa, hsh, hwy, hyc⟩ := id hch
  obtain ⟨-, -, hfo, hfw⟩ := id hwa
  obtain ⟨-, -, -, -, hs, hsf⟩ := id hfo
  have hwn := hwf.2.1
  have hnn9 := hwf.2.2.1
  refine jk_bipush (q := 30) (y := 61) dX12_renderBenchmark_28 rfl (by decide) ?_
  refine jk_cV1g (q := 33) (c_J4_append_cf468 (b := x + 578) hbd hz hzp (by omega) (by omega) (c := 61) (by decide) (by simp only [List.length_append, List.length_cons, List.length_nil]; omega)) jm_J4_append_cf468 jw_1471 rfl (by first | exact hx0 | exact hs.1 | exact hs.2.1 _ _ rfl | exact hfo.1 | exact hfo.2.1 _ _ rfl | exact hwa.1.1 | exact hwa.1.2.1 | exact hwa.1.2.2 | exact hsh.1.1 | exact hsh.1.2.1 | exact hhe.1.1 | exact hba.1.1 | exact hcc.1 | exact hH.1 | exact hsc.1.1 | exact hB4.1 | exact hSN.1 | exact hbd.1.1 | exact hr9 | assumption) rfl rfl (by decide) (by decide) rfl dX12_renderBenchmark_30 rfl (fun v' n4 t4 σ4 ρ4 hq => ?_) (fun _ _ _ _ _ h => h.elim)
  obtain ⟨rfl, w4, K4, hb9, -, hf9⟩ := hq
  simp only [Option.toList_some, Option.toList_none, List.cons_append, List.nil_append]
  have hst := rd_S i2.2 hn hv9 hst hb9 hf9
  obtain ⟨hbd, hwf, hln, hr, ho⟩ := id hst
  obtain ⟨hx0, ⟨hx1, hx2, hx3, hx4, hx5, hx6, hx7, hx8, hx9, hx10, hx11, hx12⟩, hB4, hSN, hH, hhe, hba, hch, hsc⟩ := id hln
  obtain ⟨hcc, hwa, hsh, hwy, hyc⟩ := id hch
  obtain ⟨-, -, hfo, hfw⟩ := id hwa
  obtain ⟨-, -, -, -, hs, hsf⟩ := id hfo
  have hwn := hwf.2.1
  have hnn9 := hwf.2.2.1
  refine jk_pop (q := 34) dX12_renderBenchmark_33 rfl rfl ?_
  refine jk_aload_n (q := 35) dX12_renderBenchmark_34 rfl rfl ?_
  refine jk_getA (q := 38) (k := 12) 8 8 rfl (by first | exact hx0 | exact hs.1 | exact hs.2.1 _ _ rfl | exact hfo.1 | exact hfo.2.1 _ _ rfl | exact hwa.1.1 | exact hwa.1.2.1 | exact hwa.1.2.2 | exact hsh.1.1 | exact hsh.1.2.1 | exact hhe.1.1 | exact hba.1.1 | exact hcc.1 | exact hH.1 | exact hsc.1.1 | exact hB4.1 | exact hSN.1 | exact hbd.1.1 | exact hr9 | assumption) (by first | assumption | exact hs.2.2.1 _ _ rfl | exact hfo.2.2.1 _ _ rfl | exact hwa.2.1.2.2.1 | exact hsh.2.1.2.1) rfl rfl jw_383 dX12_renderBenchmark_35 rfl ?_
  refine jk_iload_n (q := 39) dX12_renderBenchmark_38 rfl rfl ?_
  refine jk_cV1p (q := 42) (c_X4_exists hhe hr hi ho hp9) jm_X4_exists jw_866 rfl (by first | exact hx0 | exact hs.1 | exact hs.2.1 _ _ rfl | exact hfo.1 | exact hfo.2.1 _ _ rfl | exact hwa.1.1 | exact hwa.1.2.1 | exact hwa.1.2.2 | exact hsh.1.1 | exact hsh.1.2.1 | exact hhe.1.1 | exact hba.1.1 | exact hcc.1 | exact hH.1 | exact hsc.1.1 | exact hB4.1 | exact hSN.1 | exact hbd.1.1 | exact hr9 | assumption) rfl rfl rfl dX12_renderBenchmark_39 rfl ?_
  refine jk_ifB_eq (q := 64) (q2 := 45) dX12_renderBenchmark_42 rfl rfl (fun z1 => ?_) (fun z1 => ?_)
  · have hhi : md_hi g (md_Ro g) p = false := by assumption
    refine jk_aload_n (q := 65) dX12_renderBenchmark_64 rfl rfl ?_
    refine jk_getA (q := 68) (k := 12) 12 12 rfl (by first | exact hx0 | exact hs.1 | exact hs.2.1 _ _ rfl | exact hfo.1 | exact hfo.2.1 _ _ rfl | exact hwa.1.1 | exact hwa.1.2.1 | exact hwa.1.2.2 | exact hsh.1.1 | exact hsh.1.2.1 | exact hhe.1.1 | exact hba.1.1 | exact hcc.1 | exact hH.1 | exact hsc.1.1 | exact hB4.1 | exact hSN.1 | exact hbd.1.1 | exact hr9 | assumption) (by first | assumption | exact hs.2.2.1 _ _ rfl | exact hfo.2.2.1 _ _ rfl | exact hwa.2.1.2.2.1 | exact hsh.2.1.2.1) rfl rfl jw_387 dX12_renderBenchmark_65 rfl ?_
    refine jk_bipush (q := 70) (y := 63) dX12_renderBenchmark_68 rfl (by decide) ?_
    refine jk_cV1g (q := 73) (c_J4_append_cf468 (b := x + 578) hbd hz hzp (by omega) (by omega) (c := 63) (by decide) (by simp only [List.length_append, List.length_cons, List.length_nil]; omega)) jm_J4_append_cf468 jw_1471 rfl (by first | exact hx0 | exact hs.1 | exact hs.2.1 _ _ rfl | exact hfo.1 | exact hfo.2.1 _ _ rfl | exact hwa.1.1 | exact hwa.1.2.1 | exact hwa.1.2.2 | exact hsh.1.1 | exact hsh.1.2.1 | exact hhe.1.1 | exact hba.1.1 | exact hcc.1 | exact hH.1 | exact hsc.1.1 | exact hB4.1 | exact hSN.1 | exact hbd.1.1 | exact hr9 | assumption) rfl rfl (by decide) (by decide) rfl dX12_renderBenchmark_70 rfl (fun v' n6 t6 σ6 ρ6 hq => ?_) (fun _ _ _ _ _ h => h.elim)
    obtain ⟨rfl, w6, K6, hb9, -, hf9⟩ := hq
    simp only [Option.toList_some, Option.toList_none, List.cons_append, List.nil_append]
    have hst := rd_S i2.2 hn hv9 hst hb9 hf9
    obtain ⟨hbd, hwf, hln, hr, ho⟩ := id hst
    obtain ⟨hx0, ⟨hx1, hx2, hx3, hx4, hx5, hx6, hx7, hx8, hx9, hx10, hx11, hx12⟩, hB4, hSN, hH, hhe, hba, hch, hsc⟩ := id hln
    obtain ⟨hcc, hwa, hsh, hwy, hyc⟩ := id hch
    obtain ⟨-, -, hfo, hfw⟩ := id hwa
    obtain ⟨-, -, -, -, hs, hsf⟩ := id hfo
    have hwn := hwf.2.1
    have hnn9 := hwf.2.2.1
    refine jk_pop (q := 74) dX12_renderBenchmark_73 rfl rfl ?_
    refine jk_aload_n (q := 75) dX12_renderBenchmark_74 rfl rfl ?_
    refine jk_getA (q := 78) (k := 12) 0 0 rfl (by first | exact hx0 | exact hs.1 | exact hs.2.1 _ _ rfl | exact hfo.1 | exact hfo.2.1 _ _ rfl | exact hwa.1.1 | exact hwa.1.2.1 | exact hwa.1.2.2 | exact hsh.1.1 | exact hsh.1.2.1 | exact hhe.1.1 | exact hba.1.1 | exact hcc.1 | exact hH.1 | exact hsc.1.1 | exact hB4.1 | exact hSN.1 | exact hbd.1.1 | exact hr9 | assumption) (by first | assumption | exact hs.2.2.1 _ _ rfl | exact hfo.2.2.1 _ _ rfl | exact hwa.2.1.2.2.1 | exact hsh.2.1.2.1) rfl rfl jw_375 dX12_renderBenchmark_75 rfl ?_
    refine jk_getA (q := 81) (k := 9) 1 1 rfl (by first | exact hx0 | exact hs.1 | exact hs.2.1 _ _ rfl | exact hfo.1 | exact hfo.2.1 _ _ rfl | exact hwa.1.1 | exact hwa.1.2.1 | exact hwa.1.2.2 | exact hsh.1.1 | exact hsh.1.2.1 | exact hhe.1.1 | exact hba.1.1 | exact hcc.1 | exact hH.1 | exact hsc.1.1 | exact hB4.1 | exact hSN.1 | exact hbd.1.1 | exact hr9 | assumption) (by first | assumption | exact hs.2.2.1 _ _ rfl | exact hfo.2.2.1 _ _ rfl | exact hwa.2.1.2.2.1 | exact hsh.2.1.2.1) rfl rfl jw_62 dX12_renderBenchmark_78 rfl ?_
    refine jk_iload_n (q := 82) dX12_renderBenchmark_81 rfl rfl ?_
    refine jk_zaldR (q := 83) (by first | exact hx0 | exact hs.1 | exact hs.2.1 _ _ rfl | exact hfo.1 | exact hfo.2.1 _ _ rfl | exact hwa.1.1 | exact hwa.1.2.1 | exact hwa.1.2.2 | exact hsh.1.1 | exact hsh.1.2.1 | exact hhe.1.1 | exact hba.1.1 | exact hcc.1 | exact hH.1 | exact hsc.1.1 | exact hB4.1 | exact hSN.1 | exact hbd.1.1 | exact hr9 | assumption) (by first | exact jk_row_same _ _ _ | ((repeat rewrite [jk_row_ne _ _ (by omega)]); first | exact jk_row_same _ _ _ | rfl)) (by first | assumption | decide | omega | exact jB_01 _ | exact jB_in _ | exact ⟨by omega, by omega⟩ | (show jk_in (g (4 + p)); exact ⟨by omega, by omega⟩)) dX12_renderBenchmark_82 rfl ?_
    rw [(hr.2.1 p hp9).1]
    refine jk_if_eq (q := 96) (q2 := 86) dX12_renderBenchmark_83 rfl rfl (by first | assumption | decide | omega | exact jB_01 _ | exact jB_in _ | exact ⟨by omega, by omega⟩ | (show jk_in (g (4 + p)); exact ⟨by omega, by omega⟩)) (fun z2 => ?_) (fun z2 => ?_)
    · refine jk_aload_n (q := 97) dX12_renderBenchmark_96 rfl rfl ?_
      refine jk_getA (q := 100) (k := 12) 12 12 rfl (by first | exact hx0 | exact hs.1 | exact hs.2.1 _ _ rfl | exact hfo.1 | exact hfo.2.1 _ _ rfl | exact hwa.1.1 | exact hwa.1.2.1 | exact hwa.1.2.2 | exact hsh.1.1 | exact hsh.1.2.1 | exact hhe.1.1 | exact hba.1.1 | exact hcc.1 | exact hH.1 | exact hsc.1.1 | exact hB4.1 | exact hSN.1 | exact hbd.1.1 | exact hr9 | assumption) (by first | assumption | exact hs.2.2.1 _ _ rfl | exact hfo.2.2.1 _ _ rfl | exact hwa.2.1.2.2.1 | exact hsh.2.1.2.1) rfl rfl jw_387 dX12_renderBenchmark_97 rfl ?_
      refine jk_cV0p (q := 103) (c_J4_length_8abf5 hbd) jm_J4_length_8abf5 jw_1498 rfl (by first | exact hx0 | exact hs.1 | exact hs.2.1 _ _ rfl | exact hfo.1 | exact hfo.2.1 _ _ rfl | exact hwa.1.1 | exact hwa.1.2.1 | exact hwa.1.2.2 | exact hsh.1.1 | exact hsh.1.2.1 | exact hhe.1.1 | exact hba.1.1 | exact hcc.1 | exact hH.1 | exact hsc.1.1 | exact hB4.1 | exact hSN.1 | exact hbd.1.1 | exact hr9 | assumption) rfl rfl rfl dX12_renderBenchmark_100 rfl ?_
      exact jk_iret rfl dX12_renderBenchmark_103 (by 
          have hF1 : (if g (4 + p) = 1 then [33] else ([] : List Int)) = [] := by first | exact if_pos (by omega) | exact if_neg (by omega)
          have e9 : [] ++ md_dgs p ++ [61] ++ [63] = md_rnb g p := by
            unfold md_rnb md_H
            rw [if_neg (by rw [hhi]; decide), hF1]
            simp only [List.nil_append, List.append_assoc, List.cons_append, List.append_nil, if_true, if_false]
          rw [e9] at hbd ⊢
          exact ⟨zr, rfl, _, _, hbd, hwf⟩)
    · refine jk_aload_n (q := 87) dX12_renderBenchmark_86 rfl rfl ?_
      refine jk_getA (q := 90) (k := 12) 12 12 rfl (by first | exact hx0 | exact hs.1 | exact hs.2.1 _ _ rfl | exact hfo.1 | exact hfo.2.1 _ _ rfl | exact hwa.1.1 | exact hwa.1.2.1 | exact hwa.1.2.2 | exact hsh.1.1 | exact hsh.1.2.1 | exact hhe.1.1 | exact hba.1.1 | exact hcc.1 | exact hH.1 | exact hsc.1.1 | exact hB4.1 | exact hSN.1 | exact hbd.1.1 | exact hr9 | assumption) (by first | assumption | exact hs.2.2.1 _ _ rfl | exact hfo.2.2.1 _ _ rfl | exact hwa.2.1.2.2.1 | exact hsh.2.1.2.1) rfl rfl jw_387 dX12_renderBenchmark_87 rfl ?_
      refine jk_bipush (q := 92) (y := 33) dX12_renderBenchmark_90 rfl (by decide) ?_
      refine jk_cV1g (q := 95) (c_J4_append_cf468 (b := x + 578) hbd hz hzp (by omega) (by omega) (c := 33) (by decide) (by simp only [List.length_append, List.length_cons, List.length_nil]; omega)) jm_J4_append_cf468 jw_1471 rfl (by first | exact hx0 | exact hs.1 | exact hs.2.1 _ _ rfl | exact hfo.1 | exact hfo.2.1 _ _ rfl | exact hwa.1.1 | exact hwa.1.2.1 | exact hwa.1.2.2 | exact hsh.1.1 | exact hsh.1.2.1 | exact hhe.1.1 | exact hba.1.1 | exact hcc.1 | exact hH.1 | exact hsc.1.1 | exact hB4.1 | exact hSN.1 | exact hbd.1.1 | exact hr9 | assumption) rfl rfl (by decide) (by decide) rfl dX12_renderBenchmark_92 rfl (fun v' n7 t7 σ7 ρ7 hq => ?_) (fun _ _ _ _ _ h => h.elim)
      obtain ⟨rfl, w7, K7, hb9, -, hf9⟩ := hq
      simp only [Option.toList_some, Option.toList_none, List.cons_append, List.nil_append]
      have hst := rd_S i2.2 hn hv9 hst hb9 hf9
      obtain ⟨hbd, hwf, hln, hr, ho⟩ := id hst
      obtain ⟨hx0, ⟨hx1, hx2, hx3, hx4, hx5, hx6, hx7, hx8, hx9, hx10, hx11, hx12⟩, hB4, hSN, hH, hhe, hba, hch, hsc⟩ := id hln
      obtain ⟨hcc, hwa, hsh, hwy, hyc⟩ := id hch
      obtain ⟨-, -, hfo, hfw⟩ := id hwa
      obtain ⟨-, -, -, -, hs, hsf⟩ := id hfo
      have hwn := hwf.2.1
      have hnn9 := hwf.2.2.1
      refine jk_pop (q := 96) dX12_renderBenchmark_95 rfl rfl ?_
      refine jk_aload_n (q := 97) dX12_renderBenchmark_96 rfl rfl ?_
      refine jk_getA (q := 100) (k := 12) 12 12 rfl (by first | exact hx0 | exact hs.1 | exact hs.2.1 _ _ rfl | exact hfo.1 | exact hfo.2.1 _ _ rfl | exact hwa.1.1 | exact hwa.1.2.1 | exact hwa.1.2.2 | exact hsh.1.1 | exact hsh.1.2.1 | exact hhe.1.1 | exact hba.1.1 | exact hcc.1 | exact hH.1 | exact hsc.1.1 | exact hB4.1 | exact hSN.1 | exact hbd.1.1 | exact hr9 | assumption) (by first | assumption | exact hs.2.2.1 _ _ rfl | exact hfo.2.2.1 _ _ rfl | exact hwa.2.1.2.2.1 | exact hsh.2.1.2.1) rfl rfl jw_387 dX12_renderBenchmark_97 rfl ?_
      refine jk_cV0p (q := 103) (c_J4_length_8abf5 hbd) jm_J4_length_8abf5 jw_1498 rfl (by first | exact hx0 | exact hs.1 | exact hs.2.1 _ _ rfl | exact hfo.1 | exact hfo.2.1 _ _ rfl | exact hwa.1.1 | exact hwa.1.2.1 | exact hwa.1.2.2 | exact hsh.1.1 | exact hsh.1.2.1 | exact hhe.1.1 | exact hba.1.1 | exact hcc.1 | exact hH.1 | exact hsc.1.1 | exact hB4.1 | exact hSN.1 | exact hbd.1.1 | exact hr9 | assumption) rfl rfl rfl dX12_renderBenchmark_100 rfl ?_
      exact jk_iret rfl dX12_renderBenchmark_103 (by 
          have hF1 : (if g (4 + p) = 1 then [33] else ([] : List Int)) = [33] := by first | exact if_pos (by omega) | exact if_neg (by omega)
          have e9 : [] ++ md_dgs p ++ [61] ++ [63] ++ [33] = md_rnb g p := by
            unfold md_rnb md_H
            rw [if_neg (by rw [hhi]; decide), hF1]
            simp only [List.nil_append, List.append_assoc, List.cons_append, List.append_nil, if_true, if_false]
          rw [e9] at hbd ⊢
          exact ⟨zr, rfl, _, _, hbd, hwf⟩)
  · have hhi : md_hi g (md_Ro g) p = true := by assumption
    have hHT := md_HT_bd hi (p := p) ⟨by omega, by omega⟩ hhi
    have d2 := dg_len_le (v := md_HT g p) (k := 8) (by decide) (by unfold md_abs; split <;> (show _ < (100000000 : Int)) <;> omega)
    refine jk_aload_n (q := 46) dX12_renderBenchmark_45 rfl rfl ?_
    refine jk_getA (q := 49) (k := 12) 12 12 rfl (by first | exact hx0 | exact hs.1 | exact hs.2.1 _ _ rfl | exact hfo.1 | exact hfo.2.1 _ _ rfl | exact hwa.1.1 | exact hwa.1.2.1 | exact hwa.1.2.2 | exact hsh.1.1 | exact hsh.1.2.1 | exact hhe.1.1 | exact hba.1.1 | exact hcc.1 | exact hH.1 | exact hsc.1.1 | exact hB4.1 | exact hSN.1 | exact hbd.1.1 | exact hr9 | assumption) (by first | assumption | exact hs.2.2.1 _ _ rfl | exact hfo.2.2.1 _ _ rfl | exact hwa.2.1.2.2.1 | exact hsh.2.1.2.1) rfl rfl jw_387 dX12_renderBenchmark_46 rfl ?_
    refine jk_aload_n (q := 50) dX12_renderBenchmark_49 rfl rfl ?_
    refine jk_getA (q := 53) (k := 12) 8 8 rfl (by first | exact hx0 | exact hs.1 | exact hs.2.1 _ _ rfl | exact hfo.1 | exact hfo.2.1 _ _ rfl | exact hwa.1.1 | exact hwa.1.2.1 | exact hwa.1.2.2 | exact hsh.1.1 | exact hsh.1.2.1 | exact hhe.1.1 | exact hba.1.1 | exact hcc.1 | exact hH.1 | exact hsc.1.1 | exact hB4.1 | exact hSN.1 | exact hbd.1.1 | exact hr9 | assumption) (by first | assumption | exact hs.2.2.1 _ _ rfl | exact hfo.2.2.1 _ _ rfl | exact hwa.2.1.2.2.1 | exact hsh.2.1.2.1) rfl rfl jw_383 dX12_renderBenchmark_50 rfl ?_
    refine jk_iload_n (q := 54) dX12_renderBenchmark_53 rfl rfl ?_
    refine jk_cV1g (q := 57) (c_X4_byWay hhe hr hi ho hw hp9 hhi) jm_X4_byWay jw_883 rfl (by first | exact hx0 | exact hs.1 | exact hs.2.1 _ _ rfl | exact hfo.1 | exact hfo.2.1 _ _ rfl | exact hwa.1.1 | exact hwa.1.2.1 | exact hwa.1.2.2 | exact hsh.1.1 | exact hsh.1.2.1 | exact hhe.1.1 | exact hba.1.1 | exact hcc.1 | exact hH.1 | exact hsc.1.1 | exact hB4.1 | exact hSN.1 | exact hbd.1.1 | exact hr9 | assumption) rfl rfl (Nat.zero_le _) (Nat.zero_le _) rfl dX12_renderBenchmark_54 rfl (fun v' n' t' σ5 ρ' hq => ?_) (fun _ _ _ _ _ h => h.elim)
    obtain ⟨rfl, hn9, ht9, hr9, hf9⟩ := hq
    replace hn9 := hn9.symm; replace ht9 := ht9.symm; replace hr9 := hr9.symm; subst hn9 ht9 hr9
    simp only [Option.toList_some, Option.toList_none, List.cons_append, List.nil_append, Nat.sub_zero]
    have hst := rd_F i2.2 hn hv9 hst (fun a h => hf9 a (by omega))
    obtain ⟨hbd, hwf, hln, hr, ho⟩ := id hst
    obtain ⟨hx0, ⟨hx1, hx2, hx3, hx4, hx5, hx6, hx7, hx8, hx9, hx10, hx11, hx12⟩, hB4, hSN, hH, hhe, hba, hch, hsc⟩ := id hln
    obtain ⟨hcc, hwa, hsh, hwy, hyc⟩ := id hch
    obtain ⟨-, -, hfo, hfw⟩ := id hwa
    obtain ⟨-, -, -, -, hs, hsf⟩ := id hfo
    have hwn := hwf.2.1
    have hnn9 := hwf.2.2.1
    refine jk_cV1g (q := 60) (c_J4_append_bf812 (b := x + 578) hbd hz hzp (by omega) (by omega) (x := md_HT g p) (by omega) (by simp only [List.length_append, List.length_cons, List.length_nil]; omega)) jm_J4_append_bf812 jw_1470 rfl (by first | exact hx0 | exact hs.1 | exact hs.2.1 _ _ rfl | exact hfo.1 | exact hfo.2.1 _ _ rfl | exact hwa.1.1 | exact hwa.1.2.1 | exact hwa.1.2.2 | exact hsh.1.1 | exact hsh.1.2.1 | exact hhe.1.1 | exact hba.1.1 | exact hcc.1 | exact hH.1 | exact hsc.1.1 | exact hB4.1 | exact hSN.1 | exact hbd.1.1 | exact hr9 | assumption) rfl rfl (by decide) (by decide) rfl dX12_renderBenchmark_57 rfl (fun v' n6 t6 σ6 ρ6 hq => ?_) (fun _ _ _ _ _ h => h.elim)
    obtain ⟨rfl, w6, K6, hb9, -, hf9⟩ := hq
    simp only [Option.toList_some, Option.toList_none, List.cons_append, List.nil_append]
    have hst := rd_S i2.2 hn hv9 hst hb9 hf9
    obtain ⟨hbd, hwf, hln, hr, ho⟩ := id hst
    obtain ⟨hx0, ⟨hx1, hx2, hx3, hx4, hx5, hx6, hx7, hx8, hx9, hx10, hx11, hx12⟩, hB4, hSN, hH, hhe, hba, hch, hsc⟩ := id hln
    obtain ⟨hcc, hwa, hsh, hwy, hyc⟩ := id hch
    obtain ⟨-, -, hfo, hfw⟩ := id hwa
    obtain ⟨-, -, -, -, hs, hsf⟩ := id hfo
    have hwn := hwf.2.1
    have hnn9 := hwf.2.2.1
    refine jk_pop (q := 61) dX12_renderBenchmark_60 rfl rfl ?_
    refine jk_goto (q := 74) dX12_renderBenchmark_61 rfl ?_
    refine jk_aload_n (q := 75) dX12_renderBenchmark_74 rfl rfl ?_
    refine jk_getA (q := 78) (k := 12) 0 0 rfl (by first | exact hx0 | exact hs.1 | exact hs.2.1 _ _ rfl | exact hfo.1 | exact hfo.2.1 _ _ rfl | exact hwa.1.1 | exact hwa.1.2.1 | exact hwa.1.2.2 | exact hsh.1.1 | exact hsh.1.2.1 | exact hhe.1.1 | exact hba.1.1 | exact hcc.1 | exact hH.1 | exact hsc.1.1 | exact hB4.1 | exact hSN.1 | exact hbd.1.1 | exact hr9 | assumption) (by first | assumption | exact hs.2.2.1 _ _ rfl | exact hfo.2.2.1 _ _ rfl | exact hwa.2.1.2.2.1 | exact hsh.2.1.2.1) rfl rfl jw_375 dX12_renderBenchmark_75 rfl ?_
    refine jk_getA (q := 81) (k := 9) 1 1 rfl (by first | exact hx0 | exact hs.1 | exact hs.2.1 _ _ rfl | exact hfo.1 | exact hfo.2.1 _ _ rfl | exact hwa.1.1 | exact hwa.1.2.1 | exact hwa.1.2.2 | exact hsh.1.1 | exact hsh.1.2.1 | exact hhe.1.1 | exact hba.1.1 | exact hcc.1 | exact hH.1 | exact hsc.1.1 | exact hB4.1 | exact hSN.1 | exact hbd.1.1 | exact hr9 | assumption) (by first | assumption | exact hs.2.2.1 _ _ rfl | exact hfo.2.2.1 _ _ rfl | exact hwa.2.1.2.2.1 | exact hsh.2.1.2.1) rfl rfl jw_62 dX12_renderBenchmark_78 rfl ?_
    refine jk_iload_n (q := 82) dX12_renderBenchmark_81 rfl rfl ?_
    refine jk_zaldR (q := 83) (by first | exact hx0 | exact hs.1 | exact hs.2.1 _ _ rfl | exact hfo.1 | exact hfo.2.1 _ _ rfl | exact hwa.1.1 | exact hwa.1.2.1 | exact hwa.1.2.2 | exact hsh.1.1 | exact hsh.1.2.1 | exact hhe.1.1 | exact hba.1.1 | exact hcc.1 | exact hH.1 | exact hsc.1.1 | exact hB4.1 | exact hSN.1 | exact hbd.1.1 | exact hr9 | assumption) (by first | exact jk_row_same _ _ _ | ((repeat rewrite [jk_row_ne _ _ (by omega)]); first | exact jk_row_same _ _ _ | rfl)) (by first | assumption | decide | omega | exact jB_01 _ | exact jB_in _ | exact ⟨by omega, by omega⟩ | (show jk_in (g (4 + p)); exact ⟨by omega, by omega⟩)) dX12_renderBenchmark_82 rfl ?_
    rw [(hr.2.1 p hp9).1]
    refine jk_if_eq (q := 96) (q2 := 86) dX12_renderBenchmark_83 rfl rfl (by first | assumption | decide | omega | exact jB_01 _ | exact jB_in _ | exact ⟨by omega, by omega⟩ | (show jk_in (g (4 + p)); exact ⟨by omega, by omega⟩)) (fun z3 => ?_) (fun z3 => ?_)
    · refine jk_aload_n (q := 97) dX12_renderBenchmark_96 rfl rfl ?_
      refine jk_getA (q := 100) (k := 12) 12 12 rfl (by first | exact hx0 | exact hs.1 | exact hs.2.1 _ _ rfl | exact hfo.1 | exact hfo.2.1 _ _ rfl | exact hwa.1.1 | exact hwa.1.2.1 | exact hwa.1.2.2 | exact hsh.1.1 | exact hsh.1.2.1 | exact hhe.1.1 | exact hba.1.1 | exact hcc.1 | exact hH.1 | exact hsc.1.1 | exact hB4.1 | exact hSN.1 | exact hbd.1.1 | exact hr9 | assumption) (by first | assumption | exact hs.2.2.1 _ _ rfl | exact hfo.2.2.1 _ _ rfl | exact hwa.2.1.2.2.1 | exact hsh.2.1.2.1) rfl rfl jw_387 dX12_renderBenchmark_97 rfl ?_
      refine jk_cV0p (q := 103) (c_J4_length_8abf5 hbd) jm_J4_length_8abf5 jw_1498 rfl (by first | exact hx0 | exact hs.1 | exact hs.2.1 _ _ rfl | exact hfo.1 | exact hfo.2.1 _ _ rfl | exact hwa.1.1 | exact hwa.1.2.1 | exact hwa.1.2.2 | exact hsh.1.1 | exact hsh.1.2.1 | exact hhe.1.1 | exact hba.1.1 | exact hcc.1 | exact hH.1 | exact hsc.1.1 | exact hB4.1 | exact hSN.1 | exact hbd.1.1 | exact hr9 | assumption) rfl rfl rfl dX12_renderBenchmark_100 rfl ?_
      exact jk_iret rfl dX12_renderBenchmark_103 (by 
          have hF1 : (if g (4 + p) = 1 then [33] else ([] : List Int)) = [] := by first | exact if_pos (by omega) | exact if_neg (by omega)
          have e9 : [] ++ md_dgs p ++ [61] ++ md_dgs (md_HT g p) = md_rnb g p := by
            unfold md_rnb md_H
            rw [if_pos hhi, hF1]
            simp only [List.nil_append, List.append_assoc, List.cons_append, List.append_nil, if_true, if_false]
          rw [e9] at hbd ⊢
          exact ⟨zr, rfl, _, _, hbd, hwf⟩)
    · refine jk_aload_n (q := 87) dX12_renderBenchmark_86 rfl rfl ?_
      refine jk_getA (q := 90) (k := 12) 12 12 rfl (by first | exact hx0 | exact hs.1 | exact hs.2.1 _ _ rfl | exact hfo.1 | exact hfo.2.1 _ _ rfl | exact hwa.1.1 | exact hwa.1.2.1 | exact hwa.1.2.2 | exact hsh.1.1 | exact hsh.1.2.1 | exact hhe.1.1 | exact hba.1.1 | exact hcc.1 | exact hH.1 | exact hsc.1.1 | exact hB4.1 | exact hSN.1 | exact hbd.1.1 | exact hr9 | assumption) (by first | assumption | exact hs.2.2.1 _ _ rfl | exact hfo.2.2.1 _ _ rfl | exact hwa.2.1.2.2.1 | exact hsh.2.1.2.1) rfl rfl jw_387 dX12_renderBenchmark_87 rfl ?_
      refine jk_bipush (q := 92) (y := 33) dX12_renderBenchmark_90 rfl (by decide) ?_
      refine jk_cV1g (q := 95) (c_J4_append_cf468 (b := x + 578) hbd hz hzp (by omega) (by omega) (c := 33) (by decide) (by simp only [List.length_append, List.length_cons, List.length_nil]; omega)) jm_J4_append_cf468 jw_1471 rfl (by first | exact hx0 | exact hs.1 | exact hs.2.1 _ _ rfl | exact hfo.1 | exact hfo.2.1 _ _ rfl | exact hwa.1.1 | exact hwa.1.2.1 | exact hwa.1.2.2 | exact hsh.1.1 | exact hsh.1.2.1 | exact hhe.1.1 | exact hba.1.1 | exact hcc.1 | exact hH.1 | exact hsc.1.1 | exact hB4.1 | exact hSN.1 | exact hbd.1.1 | exact hr9 | assumption) rfl rfl (by decide) (by decide) rfl dX12_renderBenchmark_92 rfl (fun v' n7 t7 σ7 ρ7 hq => ?_) (fun _ _ _ _ _ h => h.elim)
      obtain ⟨rfl, w7, K7, hb9, -, hf9⟩ := hq
      simp only [Option.toList_some, Option.toList_none, List.cons_append, List.nil_append]
      have hst := rd_S i2.2 hn hv9 hst hb9 hf9
      obtain ⟨hbd, hwf, hln, hr, ho⟩ := id hst
      obtain ⟨hx0, ⟨hx1, hx2, hx3, hx4, hx5, hx6, hx7, hx8, hx9, hx10, hx11, hx12⟩, hB4, hSN, hH, hhe, hba, hch, hsc⟩ := id hln
      obtain ⟨hcc, hwa, hsh, hwy, hyc⟩ := id hch
      obtain ⟨-, -, hfo, hfw⟩ := id hwa
      obtain ⟨-, -, -, -, hs, hsf⟩ := id hfo
      have hwn := hwf.2.1
      have hnn9 := hwf.2.2.1
      refine jk_pop (q := 96) dX12_renderBenchmark_95 rfl rfl ?_
      refine jk_aload_n (q := 97) dX12_renderBenchmark_96 rfl rfl ?_
      refine jk_getA (q := 100) (k := 12) 12 12 rfl (by first | exact hx0 | exact hs.1 | exact hs.2.1 _ _ rfl | exact hfo.1 | exact hfo.2.1 _ _ rfl | exact hwa.1.1 | exact hwa.1.2.1 | exact hwa.1.2.2 | exact hsh.1.1 | exact hsh.1.2.1 | exact hhe.1.1 | exact hba.1.1 | exact hcc.1 | exact hH.1 | exact hsc.1.1 | exact hB4.1 | exact hSN.1 | exact hbd.1.1 | exact hr9 | assumption) (by first | assumption | exact hs.2.2.1 _ _ rfl | exact hfo.2.2.1 _ _ rfl | exact hwa.2.1.2.2.1 | exact hsh.2.1.2.1) rfl rfl jw_387 dX12_renderBenchmark_97 rfl ?_
      refine jk_cV0p (q := 103) (c_J4_length_8abf5 hbd) jm_J4_length_8abf5 jw_1498 rfl (by first | exact hx0 | exact hs.1 | exact hs.2.1 _ _ rfl | exact hfo.1 | exact hfo.2.1 _ _ rfl | exact hwa.1.1 | exact hwa.1.2.1 | exact hwa.1.2.2 | exact hsh.1.1 | exact hsh.1.2.1 | exact hhe.1.1 | exact hba.1.1 | exact hcc.1 | exact hH.1 | exact hsc.1.1 | exact hB4.1 | exact hSN.1 | exact hbd.1.1 | exact hr9 | assumption) rfl rfl rfl dX12_renderBenchmark_100 rfl ?_
      exact jk_iret rfl dX12_renderBenchmark_103 (by 
          have hF1 : (if g (4 + p) = 1 then [33] else ([] : List Int)) = [33] := by first | exact if_pos (by omega) | exact if_neg (by omega)
          have e9 : [] ++ md_dgs p ++ [61] ++ md_dgs (md_HT g p) ++ [33] = md_rnb g p := by
            unfold md_rnb md_H
            rw [if_pos hhi, hF1]
            simp only [List.nil_append, List.append_assoc, List.cons_append, List.append_nil, if_true, if_false]
          rw [e9] at hbd ⊢
          exact ⟨zr, rfl, _, _, hbd, hwf⟩)
theorem c_X12_outputAt {G : jk_G} {n : Nat} {t : jk_T} {σ : jk_I} {ρ : jk_P} {x : Nat} {g : Int → Int} {B : Int} {p : Int} {v K : Nat} {L : List Int} (hz : zz_ok G) (hx : zx_ok G) (hln : ln_at t ρ x) (hr : cl_rel σ (x + 2) g) (ha : md_all B g) (hnn : cl_nn σ (x + 2)) (hsi : md_sit g) (hv : zv_ok G) (hbd : bd_is t ρ σ (x + 578) v K L) (hp : jk_in p) : jk_K G yX12_outputAt mX12_outputAt 1 6 [.ref x, jI p] n t σ ρ (ln_RQ x (if cl_has (L.length : Nat) p = true then 0 else 1) (jI (L.getD p.toNat 0)) σ n t ρ) (ln_RX x (if cl_has (L.length : Nat) p = true then 0 else 1) (ex_1 "java/lang/IndexOutOfBoundsException") σ n t ρ) := by
  obtain ⟨hx0, ⟨hx1, hx2, hx3, hx4, hx5, hx6, hx7, hx8, hx9, hx10, hx11, hx12⟩, hB4, hSN, hH, hhe, hba, hch, hsc⟩ := id hln
  obtain ⟨hcc, hwa, hsh, hwy, hyc⟩ := id hch
  obtain ⟨-, -, hfo, hfw⟩ := id hwa
  obtain ⟨-, -, -, -, hs, hsf⟩ := id hfo
  have hi := ha.1
  have hw := ha.2.1
  have hxx := ha.2.2.1
  have i0 := hi.1
  have i1 := hi.2.1
  have i2 := hi.2.2.1
  have i3 := hi.2.2.2.1
  obtain ⟨q0, q1, q2, q3⟩ := hr.1
  have hf0 : ln_fr x σ σ := fun _ _ => rfl
  have hLK := hbd.2.2.2.1
  have hK9 := hbd.1.2.2.2.2.1
  have hby := hbd.2.2.2.2.1
  have hel := hbd.2.2.2.2.2
  refine jk_entryB (ls := [some (.ref x), some (jI p)]) jm_X12_outputAt.1 rfl rfl rfl ?_
  refine jk_iload_n (q := 1) dX12_outputAt_0 rfl rfl ?_
  refine jk_if_lt (q := 15) (q2 := 4) dX12_outputAt_1 rfl rfl (by first | assumption | decide | omega | exact jB_01 _ | exact jB_in _ | exact ⟨by omega, by omega⟩) (fun z1 => ?_) (fun z1 => ?_)
  · exact jk_throwSW (jt_372_374 hx) rfl (by decide) (by decide) (by decide) (by decide) (by decide) dX12_outputAt_15 dX12_outputAt_18 dX12_outputAt_19 dX12_outputAt_22 dX12_outputAt_25 (fun n' hn' => by rw [if_neg (fun h => by have := cl_hasT h; omega)]; exact ⟨by decide, rfl, hn', rfl, rfl, hf0⟩)
  · refine jk_iload_n (q := 5) dX12_outputAt_4 rfl rfl ?_
    refine jk_aload_n (q := 6) dX12_outputAt_5 rfl rfl ?_
    refine jk_getA (q := 9) (k := 12) 12 12 rfl (by first | exact hx0 | exact hs.1 | exact hs.2.1 _ _ rfl | exact hfo.1 | exact hfo.2.1 _ _ rfl | exact hwa.1.1 | exact hwa.1.2.1 | exact hwa.1.2.2 | exact hsh.1.1 | exact hsh.1.2.1 | exact hhe.1.1 | exact hba.1.1 | exact hcc.1 | exact hH.1 | exact hsc.1.1 | exact hB4.1 | exact hSN.1 | exact hbd.1.1 | assumption) (by first | assumption | exact hs.2.2.1 _ _ rfl | exact hfo.2.2.1 _ _ rfl | exact hwa.2.1.2.2.1 | exact hsh.2.1.2.1) rfl rfl jw_387 dX12_outputAt_6 rfl ?_
    refine jk_cV0p (q := 12) (c_J4_length_8abf5 hbd) jm_J4_length_8abf5 jw_1498 rfl (by first | exact hx0 | exact hs.1 | exact hs.2.1 _ _ rfl | exact hfo.1 | exact hfo.2.1 _ _ rfl | exact hwa.1.1 | exact hwa.1.2.1 | exact hwa.1.2.2 | exact hsh.1.1 | exact hsh.1.2.1 | exact hhe.1.1 | exact hba.1.1 | exact hcc.1 | exact hH.1 | exact hsc.1.1 | exact hB4.1 | exact hSN.1 | exact hbd.1.1 | assumption) rfl rfl rfl dX12_outputAt_9 rfl ?_
    refine jk_icmp_lt (q := 26) (q2 := 15) dX12_outputAt_12 rfl rfl (by first | assumption | decide | omega | exact jB_01 _ | exact jB_in _ | exact ⟨by omega, by omega⟩) (by first | assumption | decide | omega | exact jB_01 _ | exact jB_in _ | exact ⟨by omega, by omega⟩) (fun z2 => ?_) (fun z2 => ?_)
    · refine jk_aload_n (q := 27) dX12_outputAt_26 rfl rfl ?_
      refine jk_getA (q := 30) (k := 12) 12 12 rfl (by first | exact hx0 | exact hs.1 | exact hs.2.1 _ _ rfl | exact hfo.1 | exact hfo.2.1 _ _ rfl | exact hwa.1.1 | exact hwa.1.2.1 | exact hwa.1.2.2 | exact hsh.1.1 | exact hsh.1.2.1 | exact hhe.1.1 | exact hba.1.1 | exact hcc.1 | exact hH.1 | exact hsc.1.1 | exact hB4.1 | exact hSN.1 | exact hbd.1.1 | assumption) (by first | assumption | exact hs.2.2.1 _ _ rfl | exact hfo.2.2.1 _ _ rfl | exact hwa.2.1.2.2.1 | exact hsh.2.1.2.1) rfl rfl jw_387 dX12_outputAt_27 rfl ?_
      refine jk_iload_n (q := 31) dX12_outputAt_30 rfl rfl ?_
      refine jk_cV1p (q := 34) (c_J4_charAt_5068e hbd hv ⟨by omega, by omega⟩) jm_J4_charAt_5068e jw_1694 rfl (by first | exact hx0 | exact hs.1 | exact hs.2.1 _ _ rfl | exact hfo.1 | exact hfo.2.1 _ _ rfl | exact hwa.1.1 | exact hwa.1.2.1 | exact hwa.1.2.2 | exact hsh.1.1 | exact hsh.1.2.1 | exact hhe.1.1 | exact hba.1.1 | exact hcc.1 | exact hH.1 | exact hsc.1.1 | exact hB4.1 | exact hSN.1 | exact hbd.1.1 | assumption) rfl rfl rfl dX12_outputAt_31 rfl ?_
      have hb9 := hby p ⟨by omega, by omega⟩
      have he9 := hel p.toNat (by omega)
      rw [show ((p.toNat : Nat) : Int) = p by omega] at he9
      rw [he9] at hb9
      exact jk_cret rfl (by first | assumption | decide | omega | exact jB_01 _ | exact jB_in _ | exact ⟨by omega, by omega⟩) dX12_outputAt_34 (by rw [if_pos (show cl_has ((L.length : Nat) : Int) p = true from decide_eq_true ⟨by omega, by omega⟩)]; exact ⟨rfl, rfl, rfl, rfl, rfl, hf0⟩)
    · exact jk_throwSW (jt_372_374 hx) rfl (by decide) (by decide) (by decide) (by decide) (by decide) dX12_outputAt_15 dX12_outputAt_18 dX12_outputAt_19 dX12_outputAt_22 dX12_outputAt_25 (fun n' hn' => by rw [if_neg (fun h => by have := cl_hasT h; omega)]; exact ⟨by decide, rfl, hn', rfl, rfl, hf0⟩)
end R3
