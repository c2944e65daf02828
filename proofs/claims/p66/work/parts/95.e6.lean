section E6
theorem c_X12_addBenchmark {G : jk_G} {n : Nat} {t : jk_T} {σ : jk_I} {ρ : jk_P} {x : Nat} {g : Int → Int} {B : Int} {c : Nat} {Hr : Nat → Int → Int} (hz : zz_ok G) (hx : zx_ok G) (hln : ln_at t ρ x) (hr : cl_rel σ (x + 2) g) (ha : md_all B g) (hnn : cl_nn σ (x + 2)) (hsi : md_sit g) (hre : hs_rel σ (x + 140) c Hr) (hH : ∀ j, j < c → Hr j 2 ≤ 4)  : jk_K G yX12_addBenchmark mX12_addBenchmark 1 6 [.ref x] n t σ ρ (ln_CQ x c Hr g (cl_do 0 g 0 0 0 0) σ n t ρ) (ln_CX x 0 (cl_do 0 g 0 0 0 0) σ n t ρ) := by
  obtain ⟨hx0, ⟨hx1, hx2, hx3, hx4, hx5, hx6, hx7, hx8, hx9, hx10, hx11, hx12⟩, hB4, hSN, hH', hhe, hba, hch, hsc⟩ := id hln
  obtain ⟨hcc, hwa, hsh, hwy, hyc⟩ := id hch
  obtain ⟨-, -, hfo, hfw⟩ := id hwa
  obtain ⟨-, -, -, -, hs, hsf⟩ := id hfo
  have hi := ha.1
  have hw := ha.2.1
  have hxx := ha.2.2.1
  have i0 := hi.1
  have i1 := hi.2.1
  have i2 := hi.2.2.1
  have i3 := hi.2.2.2.1
  obtain ⟨q0, q1, q2, q3⟩ := hr.1
  have hf0 : ln_fr x σ σ := fun _ _ => rfl
  refine jk_entryB (ls := [some (.ref x)]) jm_X12_addBenchmark.1 rfl rfl rfl ?_
  refine jk_aload_n (q := 1) dX12_addBenchmark_0 rfl rfl ?_
  refine jk_gets (q := 4) (a := 0) (zz_Ks hz (i := 0) (by decide)) jw_425 dX12_addBenchmark_1 rfl ?_
  refine jk_iconst (q := 5) dX12_addBenchmark_4 rfl ?_
  refine jk_iconst (q := 6) dX12_addBenchmark_5 rfl ?_
  refine jk_iconst (q := 7) dX12_addBenchmark_6 rfl ?_
  refine jk_iconst (q := 8) dX12_addBenchmark_7 rfl ?_
  refine jk_cV5g (q := 11) (c_X12_change (k := 0) hz hx hln hr ha hnn hsi hre hH (by decide) (by decide) (by decide) (by decide) (by decide)) jm_X12_change jw_427 rfl (by first | exact hx0 | exact hs.1 | exact hs.2.1 _ _ rfl | exact hfo.1 | exact hfo.2.1 _ _ rfl | exact hwa.1.1 | exact hwa.1.2.1 | exact hwa.1.2.2 | exact hsh.1.1 | exact hsh.1.2.1 | exact hhe.1.1 | exact hba.1.1 | exact hcc.1 | exact hH'.1 | exact hsc.1.1 | exact hB4.1 | exact hSN.1 | assumption) rfl rfl (by decide) (by decide) rfl dX12_addBenchmark_8 rfl (fun v' n' t' σ' ρ' hq => ?_) (fun E n' t' σ' ρ' hx9 => hx9)
  obtain ⟨h0, rfl, rfl, rfl, rfl, hp9⟩ := hq
  simp only [Option.toList_some, List.cons_append, List.nil_append]
  exact jk_iret rfl dX12_addBenchmark_11 (by exact ⟨h0, rfl, rfl, rfl, rfl, hp9⟩)
theorem c_X12_fix {G : jk_G} {n : Nat} {t : jk_T} {σ : jk_I} {ρ : jk_P} {x : Nat} {g : Int → Int} {B : Int} {c : Nat} {a b : Int} {Hr : Nat → Int → Int} (hz : zz_ok G) (hx : zx_ok G) (hln : ln_at t ρ x) (hr : cl_rel σ (x + 2) g) (ha : md_all B g) (hnn : cl_nn σ (x + 2)) (hsi : md_sit g) (hre : hs_rel σ (x + 140) c Hr) (hH : ∀ j, j < c → Hr j 2 ≤ 4) (h_a : jk_in a) (h_b : jk_in b) : jk_K G yX12_fix mX12_fix 1 6 [.ref x, jI a, jI b] n t σ ρ (ln_CQ x c Hr g (cl_do 1 g a b 0 0) σ n t ρ) (ln_CX x 1 (cl_do 1 g a b 0 0) σ n t ρ) := by
  obtain ⟨hx0, ⟨hx1, hx2, hx3, hx4, hx5, hx6, hx7, hx8, hx9, hx10, hx11, hx12⟩, hB4, hSN, hH', hhe, hba, hch, hsc⟩ := id hln
  obtain ⟨hcc, hwa, hsh, hwy, hyc⟩ := id hch
  obtain ⟨-, -, hfo, hfw⟩ := id hwa
  obtain ⟨-, -, -, -, hs, hsf⟩ := id hfo
  have hi := ha.1
  have hw := ha.2.1
  have hxx := ha.2.2.1
  have i0 := hi.1
  have i1 := hi.2.1
  have i2 := hi.2.2.1
  have i3 := hi.2.2.2.1
  obtain ⟨q0, q1, q2, q3⟩ := hr.1
  have hf0 : ln_fr x σ σ := fun _ _ => rfl
  refine jk_entryB (ls := [some (.ref x), some (jI a), some (jI b)]) jm_X12_fix.1 rfl rfl rfl ?_
  refine jk_aload_n (q := 1) dX12_fix_0 rfl rfl ?_
  refine jk_gets (q := 4) (a := 1) (zz_Ks hz (i := 1) (by decide)) jw_807 dX12_fix_1 rfl ?_
  refine jk_iload_n (q := 5) dX12_fix_4 rfl rfl ?_
  refine jk_iload_n (q := 6) dX12_fix_5 rfl rfl ?_
  refine jk_iconst (q := 7) dX12_fix_6 rfl ?_
  refine jk_iconst (q := 8) dX12_fix_7 rfl ?_
  refine jk_cV5g (q := 11) (c_X12_change (k := 1) hz hx hln hr ha hnn hsi hre hH (by decide) h_a h_b (by decide) (by decide)) jm_X12_change jw_427 rfl (by first | exact hx0 | exact hs.1 | exact hs.2.1 _ _ rfl | exact hfo.1 | exact hfo.2.1 _ _ rfl | exact hwa.1.1 | exact hwa.1.2.1 | exact hwa.1.2.2 | exact hsh.1.1 | exact hsh.1.2.1 | exact hhe.1.1 | exact hba.1.1 | exact hcc.1 | exact hH'.1 | exact hsc.1.1 | exact hB4.1 | exact hSN.1 | assumption) rfl rfl (by decide) (by decide) rfl dX12_fix_8 rfl (fun v' n' t' σ' ρ' hq => ?_) (fun E n' t' σ' ρ' hx9 => hx9)
  obtain ⟨h0, rfl, rfl, rfl, rfl, hp9⟩ := hq
  simp only [Option.toList_some, List.cons_append, List.nil_append]
  exact jk_iret rfl dX12_fix_11 (by exact ⟨h0, rfl, rfl, rfl, rfl, hp9⟩)
theorem c_X12_release {G : jk_G} {n : Nat} {t : jk_T} {σ : jk_I} {ρ : jk_P} {x : Nat} {g : Int → Int} {B : Int} {c : Nat} {a : Int} {Hr : Nat → Int → Int} (hz : zz_ok G) (hx : zx_ok G) (hln : ln_at t ρ x) (hr : cl_rel σ (x + 2) g) (ha : md_all B g) (hnn : cl_nn σ (x + 2)) (hsi : md_sit g) (hre : hs_rel σ (x + 140) c Hr) (hH : ∀ j, j < c → Hr j 2 ≤ 4) (h_a : jk_in a) : jk_K G yX12_release mX12_release 1 6 [.ref x, jI a] n t σ ρ (ln_CQ x c Hr g (cl_do 2 g a 0 0 0) σ n t ρ) (ln_CX x 2 (cl_do 2 g a 0 0 0) σ n t ρ) := by
  obtain ⟨hx0, ⟨hx1, hx2, hx3, hx4, hx5, hx6, hx7, hx8, hx9, hx10, hx11, hx12⟩, hB4, hSN, hH', hhe, hba, hch, hsc⟩ := id hln
  obtain ⟨hcc, hwa, hsh, hwy, hyc⟩ := id hch
  obtain ⟨-, -, hfo, hfw⟩ := id hwa
  obtain ⟨-, -, -, -, hs, hsf⟩ := id hfo
  have hi := ha.1
  have hw := ha.2.1
  have hxx := ha.2.2.1
  have i0 := hi.1
  have i1 := hi.2.1
  have i2 := hi.2.2.1
  have i3 := hi.2.2.2.1
  obtain ⟨q0, q1, q2, q3⟩ := hr.1
  have hf0 : ln_fr x σ σ := fun _ _ => rfl
  refine jk_entryB (ls := [some (.ref x), some (jI a)]) jm_X12_release.1 rfl rfl rfl ?_
  refine jk_aload_n (q := 1) dX12_release_0 rfl rfl ?_
  refine jk_gets (q := 4) (a := 2) (zz_Ks hz (i := 2) (by decide)) jw_813 dX12_release_1 rfl ?_
  refine jk_iload_n (q := 5) dX12_release_4 rfl rfl ?_
  refine jk_iconst (q := 6) dX12_release_5 rfl ?_
  refine jk_iconst (q := 7) dX12_release_6 rfl ?_
  refine jk_iconst (q := 8) dX12_release_7 rfl ?_
  refine jk_cV5g (q := 11) (c_X12_change (k := 2) hz hx hln hr ha hnn hsi hre hH (by decide) h_a (by decide) (by decide) (by decide)) jm_X12_change jw_427 rfl (by first | exact hx0 | exact hs.1 | exact hs.2.1 _ _ rfl | exact hfo.1 | exact hfo.2.1 _ _ rfl | exact hwa.1.1 | exact hwa.1.2.1 | exact hwa.1.2.2 | exact hsh.1.1 | exact hsh.1.2.1 | exact hhe.1.1 | exact hba.1.1 | exact hcc.1 | exact hH'.1 | exact hsc.1.1 | exact hB4.1 | exact hSN.1 | assumption) rfl rfl (by decide) (by decide) rfl dX12_release_8 rfl (fun v' n' t' σ' ρ' hq => ?_) (fun E n' t' σ' ρ' hx9 => hx9)
  obtain ⟨h0, rfl, rfl, rfl, rfl, hp9⟩ := hq
  simp only [Option.toList_some, List.cons_append, List.nil_append]
  exact jk_iret rfl dX12_release_11 (by exact ⟨h0, rfl, rfl, rfl, rfl, hp9⟩)
theorem c_X12_addLine {G : jk_G} {n : Nat} {t : jk_T} {σ : jk_I} {ρ : jk_P} {x : Nat} {g : Int → Int} {B : Int} {c : Nat} {a b v d : Int} {Hr : Nat → Int → Int} (hz : zz_ok G) (hx : zx_ok G) (hln : ln_at t ρ x) (hr : cl_rel σ (x + 2) g) (ha : md_all B g) (hnn : cl_nn σ (x + 2)) (hsi : md_sit g) (hre : hs_rel σ (x + 140) c Hr) (hH : ∀ j, j < c → Hr j 2 ≤ 4) (h_a : jk_in a) (h_b : jk_in b) (h_v : jk_in v) (h_d : jk_in d) : jk_K G yX12_addLine mX12_addLine 1 6 [.ref x, jI a, jI b, jI v, jI d] n t σ ρ (ln_CQ x c Hr g (cl_do 3 g a b v d) σ n t ρ) (ln_CX x 3 (cl_do 3 g a b v d) σ n t ρ) := by
  obtain ⟨hx0, ⟨hx1, hx2, hx3, hx4, hx5, hx6, hx7, hx8, hx9, hx10, hx11, hx12⟩, hB4, hSN, hH', hhe, hba, hch, hsc⟩ := id hln
  obtain ⟨hcc, hwa, hsh, hwy, hyc⟩ := id hch
  obtain ⟨-, -, hfo, hfw⟩ := id hwa
  obtain ⟨-, -, -, -, hs, hsf⟩ := id hfo
  have hi := ha.1
  have hw := ha.2.1
  have hxx := ha.2.2.1
  have i0 := hi.1
  have i1 := hi.2.1
  have i2 := hi.2.2.1
  have i3 := hi.2.2.2.1
  obtain ⟨q0, q1, q2, q3⟩ := hr.1
  have hf0 : ln_fr x σ σ := fun _ _ => rfl
  refine jk_entryB (ls := [some (.ref x), some (jI a), some (jI b), some (jI v), some (jI d)]) jm_X12_addLine.1 rfl rfl rfl ?_
  refine jk_aload_n (q := 1) dX12_addLine_0 rfl rfl ?_
  refine jk_gets (q := 4) (a := 3) (zz_Ks hz (i := 3) (by decide)) jw_1648 dX12_addLine_1 rfl ?_
  refine jk_iload_n (q := 5) dX12_addLine_4 rfl rfl ?_
  refine jk_iload_n (q := 6) dX12_addLine_5 rfl rfl ?_
  refine jk_iload_n (q := 7) dX12_addLine_6 rfl rfl ?_
  refine jk_iload (q := 9) dX12_addLine_7 rfl rfl ?_
  refine jk_cV5g (q := 12) (c_X12_change (k := 3) hz hx hln hr ha hnn hsi hre hH (by decide) h_a h_b h_v h_d) jm_X12_change jw_427 rfl (by first | exact hx0 | exact hs.1 | exact hs.2.1 _ _ rfl | exact hfo.1 | exact hfo.2.1 _ _ rfl | exact hwa.1.1 | exact hwa.1.2.1 | exact hwa.1.2.2 | exact hsh.1.1 | exact hsh.1.2.1 | exact hhe.1.1 | exact hba.1.1 | exact hcc.1 | exact hH'.1 | exact hsc.1.1 | exact hB4.1 | exact hSN.1 | assumption) rfl rfl (by decide) (by decide) rfl dX12_addLine_9 rfl (fun v' n' t' σ' ρ' hq => ?_) (fun E n' t' σ' ρ' hx9 => hx9)
  obtain ⟨h0, rfl, rfl, rfl, rfl, hp9⟩ := hq
  simp only [Option.toList_some, List.cons_append, List.nil_append]
  exact jk_iret rfl dX12_addLine_12 (by exact ⟨h0, rfl, rfl, rfl, rfl, hp9⟩)
theorem c_X12_addBackwardRun {G : jk_G} {n : Nat} {t : jk_T} {σ : jk_I} {ρ : jk_P} {x : Nat} {g : Int → Int} {B : Int} {c : Nat} {a b : Int} {Hr : Nat → Int → Int} (hz : zz_ok G) (hx : zx_ok G) (hln : ln_at t ρ x) (hr : cl_rel σ (x + 2) g) (ha : md_all B g) (hnn : cl_nn σ (x + 2)) (hsi : md_sit g) (hre : hs_rel σ (x + 140) c Hr) (hH : ∀ j, j < c → Hr j 2 ≤ 4) (h_a : jk_in a) (h_b : jk_in b) : jk_K G yX12_addBackwardRun mX12_addBackwardRun 1 6 [.ref x, jI a, jI b] n t σ ρ (ln_CQ x c Hr g (cl_do 4 g a b 0 0) σ n t ρ) (ln_CX x 4 (cl_do 4 g a b 0 0) σ n t ρ) := by
  obtain ⟨hx0, ⟨hx1, hx2, hx3, hx4, hx5, hx6, hx7, hx8, hx9, hx10, hx11, hx12⟩, hB4, hSN, hH', hhe, hba, hch, hsc⟩ := id hln
  obtain ⟨hcc, hwa, hsh, hwy, hyc⟩ := id hch
  obtain ⟨-, -, hfo, hfw⟩ := id hwa
  obtain ⟨-, -, -, -, hs, hsf⟩ := id hfo
  have hi := ha.1
  have hw := ha.2.1
  have hxx := ha.2.2.1
  have i0 := hi.1
  have i1 := hi.2.1
  have i2 := hi.2.2.1
  have i3 := hi.2.2.2.1
  obtain ⟨q0, q1, q2, q3⟩ := hr.1
  have hf0 : ln_fr x σ σ := fun _ _ => rfl
  refine jk_entryB (ls := [some (.ref x), some (jI a), some (jI b)]) jm_X12_addBackwardRun.1 rfl rfl rfl ?_
  refine jk_aload_n (q := 1) dX12_addBackwardRun_0 rfl rfl ?_
  refine jk_gets (q := 4) (a := 4) (zz_Ks hz (i := 4) (by decide)) jw_819 dX12_addBackwardRun_1 rfl ?_
  refine jk_iload_n (q := 5) dX12_addBackwardRun_4 rfl rfl ?_
  refine jk_iload_n (q := 6) dX12_addBackwardRun_5 rfl rfl ?_
  refine jk_iconst (q := 7) dX12_addBackwardRun_6 rfl ?_
  refine jk_iconst (q := 8) dX12_addBackwardRun_7 rfl ?_
  refine jk_cV5g (q := 11) (c_X12_change (k := 4) hz hx hln hr ha hnn hsi hre hH (by decide) h_a h_b (by decide) (by decide)) jm_X12_change jw_427 rfl (by first | exact hx0 | exact hs.1 | exact hs.2.1 _ _ rfl | exact hfo.1 | exact hfo.2.1 _ _ rfl | exact hwa.1.1 | exact hwa.1.2.1 | exact hwa.1.2.2 | exact hsh.1.1 | exact hsh.1.2.1 | exact hhe.1.1 | exact hba.1.1 | exact hcc.1 | exact hH'.1 | exact hsc.1.1 | exact hB4.1 | exact hSN.1 | assumption) rfl rfl (by decide) (by decide) rfl dX12_addBackwardRun_8 rfl (fun v' n' t' σ' ρ' hq => ?_) (fun E n' t' σ' ρ' hx9 => hx9)
  obtain ⟨h0, rfl, rfl, rfl, rfl, hp9⟩ := hq
  simp only [Option.toList_some, List.cons_append, List.nil_append]
  exact jk_iret rfl dX12_addBackwardRun_11 (by exact ⟨h0, rfl, rfl, rfl, rfl, hp9⟩)
theorem c_X12_exclude {G : jk_G} {n : Nat} {t : jk_T} {σ : jk_I} {ρ : jk_P} {x : Nat} {g : Int → Int} {B : Int} {c : Nat} {a : Int} {Hr : Nat → Int → Int} (hz : zz_ok G) (hx : zx_ok G) (hln : ln_at t ρ x) (hr : cl_rel σ (x + 2) g) (ha : md_all B g) (hnn : cl_nn σ (x + 2)) (hsi : md_sit g) (hre : hs_rel σ (x + 140) c Hr) (hH : ∀ j, j < c → Hr j 2 ≤ 4) (h_a : jk_in a) : jk_K G yX12_exclude mX12_exclude 1 6 [.ref x, jI a] n t σ ρ (ln_CQ x c Hr g (cl_do 5 g a 0 0 0) σ n t ρ) (ln_CX x 5 (cl_do 5 g a 0 0 0) σ n t ρ) := by
  obtain ⟨hx0, ⟨hx1, hx2, hx3, hx4, hx5, hx6, hx7, hx8, hx9, hx10, hx11, hx12⟩, hB4, hSN, hH', hhe, hba, hch, hsc⟩ := id hln
  obtain ⟨hcc, hwa, hsh, hwy, hyc⟩ := id hch
  obtain ⟨-, -, hfo, hfw⟩ := id hwa
  obtain ⟨-, -, -, -, hs, hsf⟩ := id hfo
  have hi := ha.1
  have hw := ha.2.1
  have hxx := ha.2.2.1
  have i0 := hi.1
  have i1 := hi.2.1
  have i2 := hi.2.2.1
  have i3 := hi.2.2.2.1
  obtain ⟨q0, q1, q2, q3⟩ := hr.1
  have hf0 : ln_fr x σ σ := fun _ _ => rfl
  refine jk_entryB (ls := [some (.ref x), some (jI a)]) jm_X12_exclude.1 rfl rfl rfl ?_
  refine jk_aload_n (q := 1) dX12_exclude_0 rfl rfl ?_
  refine jk_gets (q := 4) (a := 5) (zz_Ks hz (i := 5) (by decide)) jw_825 dX12_exclude_1 rfl ?_
  refine jk_iload_n (q := 5) dX12_exclude_4 rfl rfl ?_
  refine jk_iconst (q := 6) dX12_exclude_5 rfl ?_
  refine jk_iconst (q := 7) dX12_exclude_6 rfl ?_
  refine jk_iconst (q := 8) dX12_exclude_7 rfl ?_
  refine jk_cV5g (q := 11) (c_X12_change (k := 5) hz hx hln hr ha hnn hsi hre hH (by decide) h_a (by decide) (by decide) (by decide)) jm_X12_change jw_427 rfl (by first | exact hx0 | exact hs.1 | exact hs.2.1 _ _ rfl | exact hfo.1 | exact hfo.2.1 _ _ rfl | exact hwa.1.1 | exact hwa.1.2.1 | exact hwa.1.2.2 | exact hsh.1.1 | exact hsh.1.2.1 | exact hhe.1.1 | exact hba.1.1 | exact hcc.1 | exact hH'.1 | exact hsc.1.1 | exact hB4.1 | exact hSN.1 | assumption) rfl rfl (by decide) (by decide) rfl dX12_exclude_8 rfl (fun v' n' t' σ' ρ' hq => ?_) (fun E n' t' σ' ρ' hx9 => hx9)
  obtain ⟨h0, rfl, rfl, rfl, rfl, hp9⟩ := hq
  simp only [Option.toList_some, List.cons_append, List.nil_append]
  exact jk_iret rfl dX12_exclude_11 (by exact ⟨h0, rfl, rfl, rfl, rfl, hp9⟩)
theorem c_X12_include {G : jk_G} {n : Nat} {t : jk_T} {σ : jk_I} {ρ : jk_P} {x : Nat} {g : Int → Int} {B : Int} {c : Nat} {a : Int} {Hr : Nat → Int → Int} (hz : zz_ok G) (hx : zx_ok G) (hln : ln_at t ρ x) (hr : cl_rel σ (x + 2) g) (ha : md_all B g) (hnn : cl_nn σ (x + 2)) (hsi : md_sit g) (hre : hs_rel σ (x + 140) c Hr) (hH : ∀ j, j < c → Hr j 2 ≤ 4) (h_a : jk_in a) : jk_K G yX12_include mX12_include 1 6 [.ref x, jI a] n t σ ρ (ln_CQ x c Hr g (cl_do 6 g a 0 0 0) σ n t ρ) (ln_CX x 6 (cl_do 6 g a 0 0 0) σ n t ρ) := by
  obtain ⟨hx0, ⟨hx1, hx2, hx3, hx4, hx5, hx6, hx7, hx8, hx9, hx10, hx11, hx12⟩, hB4, hSN, hH', hhe, hba, hch, hsc⟩ := id hln
  obtain ⟨hcc, hwa, hsh, hwy, hyc⟩ := id hch
  obtain ⟨-, -, hfo, hfw⟩ := id hwa
  obtain ⟨-, -, -, -, hs, hsf⟩ := id hfo
  have hi := ha.1
  have hw := ha.2.1
  have hxx := ha.2.2.1
  have i0 := hi.1
  have i1 := hi.2.1
  have i2 := hi.2.2.1
  have i3 := hi.2.2.2.1
  obtain ⟨q0, q1, q2, q3⟩ := hr.1
  have hf0 : ln_fr x σ σ := fun _ _ => rfl
  refine jk_entryB (ls := [some (.ref x), some (jI a)]) jm_X12_include.1 rfl rfl rfl ?_
  refine jk_aload_n (q := 1) dX12_include_0 rfl rfl ?_
  refine jk_gets (q := 4) (a := 6) (zz_Ks hz (i := 6) (by decide)) jw_831 dX12_include_1 rfl ?_
  refine jk_iload_n (q := 5) dX12_include_4 rfl rfl ?_
  refine jk_iconst (q := 6) dX12_include_5 rfl ?_
  refine jk_iconst (q := 7) dX12_include_6 rfl ?_
  refine jk_iconst (q := 8) dX12_include_7 rfl ?_
  refine jk_cV5g (q := 11) (c_X12_change (k := 6) hz hx hln hr ha hnn hsi hre hH (by decide) h_a (by decide) (by decide) (by decide)) jm_X12_change jw_427 rfl (by first | exact hx0 | exact hs.1 | exact hs.2.1 _ _ rfl | exact hfo.1 | exact hfo.2.1 _ _ rfl | exact hwa.1.1 | exact hwa.1.2.1 | exact hwa.1.2.2 | exact hsh.1.1 | exact hsh.1.2.1 | exact hhe.1.1 | exact hba.1.1 | exact hcc.1 | exact hH'.1 | exact hsc.1.1 | exact hB4.1 | exact hSN.1 | assumption) rfl rfl (by decide) (by decide) rfl dX12_include_8 rfl (fun v' n' t' σ' ρ' hq => ?_) (fun E n' t' σ' ρ' hx9 => hx9)
  obtain ⟨h0, rfl, rfl, rfl, rfl, hp9⟩ := hq
  simp only [Option.toList_some, List.cons_append, List.nil_append]
  exact jk_iret rfl dX12_include_11 (by exact ⟨h0, rfl, rfl, rfl, rfl, hp9⟩)
theorem c_X12_shareMisclosure {G : jk_G} {n : Nat} {t : jk_T} {σ : jk_I} {ρ : jk_P} {x : Nat} {g : Int → Int} {B : Int} {c : Nat} {a : Int} {Hr : Nat → Int → Int} (hz : zz_ok G) (hx : zx_ok G) (hln : ln_at t ρ x) (hr : cl_rel σ (x + 2) g) (ha : md_all B g) (hnn : cl_nn σ (x + 2)) (hsi : md_sit g) (hre : hs_rel σ (x + 140) c Hr) (hH : ∀ j, j < c → Hr j 2 ≤ 4) (h_a : jk_in a) : jk_K G yX12_shareMisclosure mX12_shareMisclosure 1 6 [.ref x, jI a] n t σ ρ (ln_CQ x c Hr g (cl_do 7 g a 0 0 0) σ n t ρ) (ln_CX x 7 (cl_do 7 g a 0 0 0) σ n t ρ) := by
  obtain ⟨hx0, ⟨hx1, hx2, hx3, hx4, hx5, hx6, hx7, hx8, hx9, hx10, hx11, hx12⟩, hB4, hSN, hH', hhe, hba, hch, hsc⟩ := id hln
  obtain ⟨hcc, hwa, hsh, hwy, hyc⟩ := id hch
  obtain ⟨-, -, hfo, hfw⟩ := id hwa
  obtain ⟨-, -, -, -, hs, hsf⟩ := id hfo
  have hi := ha.1
  have hw := ha.2.1
  have hxx := ha.2.2.1
  have i0 := hi.1
  have i1 := hi.2.1
  have i2 := hi.2.2.1
  have i3 := hi.2.2.2.1
  obtain ⟨q0, q1, q2, q3⟩ := hr.1
  have hf0 : ln_fr x σ σ := fun _ _ => rfl
  refine jk_entryB (ls := [some (.ref x), some (jI a)]) jm_X12_shareMisclosure.1 rfl rfl rfl ?_
  refine jk_aload_n (q := 1) dX12_shareMisclosure_0 rfl rfl ?_
  refine jk_gets (q := 4) (a := 7) (zz_Ks hz (i := 7) (by decide)) jw_837 dX12_shareMisclosure_1 rfl ?_
  refine jk_iload_n (q := 5) dX12_shareMisclosure_4 rfl rfl ?_
  refine jk_iconst (q := 6) dX12_shareMisclosure_5 rfl ?_
  refine jk_iconst (q := 7) dX12_shareMisclosure_6 rfl ?_
  refine jk_iconst (q := 8) dX12_shareMisclosure_7 rfl ?_
  refine jk_cV5g (q := 11) (c_X12_change (k := 7) hz hx hln hr ha hnn hsi hre hH (by decide) h_a (by decide) (by decide) (by decide)) jm_X12_change jw_427 rfl (by first | exact hx0 | exact hs.1 | exact hs.2.1 _ _ rfl | exact hfo.1 | exact hfo.2.1 _ _ rfl | exact hwa.1.1 | exact hwa.1.2.1 | exact hwa.1.2.2 | exact hsh.1.1 | exact hsh.1.2.1 | exact hhe.1.1 | exact hba.1.1 | exact hcc.1 | exact hH'.1 | exact hsc.1.1 | exact hB4.1 | exact hSN.1 | assumption) rfl rfl (by decide) (by decide) rfl dX12_shareMisclosure_8 rfl (fun v' n' t' σ' ρ' hq => ?_) (fun E n' t' σ' ρ' hx9 => hx9)
  obtain ⟨h0, rfl, rfl, rfl, rfl, hp9⟩ := hq
  simp only [Option.toList_some, List.cons_append, List.nil_append]
  exact jk_iret rfl dX12_shareMisclosure_11 (by exact ⟨h0, rfl, rfl, rfl, rfl, hp9⟩)
theorem c_X12_resetCorrections {G : jk_G} {n : Nat} {t : jk_T} {σ : jk_I} {ρ : jk_P} {x : Nat} {g : Int → Int} {B : Int} {c : Nat} {Hr : Nat → Int → Int} (hz : zz_ok G) (hx : zx_ok G) (hln : ln_at t ρ x) (hr : cl_rel σ (x + 2) g) (ha : md_all B g) (hnn : cl_nn σ (x + 2)) (hsi : md_sit g) (hre : hs_rel σ (x + 140) c Hr) (hH : ∀ j, j < c → Hr j 2 ≤ 4)  : jk_K G yX12_resetCorrections mX12_resetCorrections 1 6 [.ref x] n t σ ρ (ln_CQ x c Hr g (cl_do 8 g 0 0 0 0) σ n t ρ) (ln_CX x 8 (cl_do 8 g 0 0 0 0) σ n t ρ) := by
  obtain ⟨hx0, ⟨hx1, hx2, hx3, hx4, hx5, hx6, hx7, hx8, hx9, hx10, hx11, hx12⟩, hB4, hSN, hH', hhe, hba, hch, hsc⟩ := id hln
  obtain ⟨hcc, hwa, hsh, hwy, hyc⟩ := id hch
  obtain ⟨-, -, hfo, hfw⟩ := id hwa
  obtain ⟨-, -, -, -, hs, hsf⟩ := id hfo
  have hi := ha.1
  have hw := ha.2.1
  have hxx := ha.2.2.1
  have i0 := hi.1
  have i1 := hi.2.1
  have i2 := hi.2.2.1
  have i3 := hi.2.2.2.1
  obtain ⟨q0, q1, q2, q3⟩ := hr.1
  have hf0 : ln_fr x σ σ := fun _ _ => rfl
  refine jk_entryB (ls := [some (.ref x)]) jm_X12_resetCorrections.1 rfl rfl rfl ?_
  refine jk_aload_n (q := 1) dX12_resetCorrections_0 rfl rfl ?_
  refine jk_gets (q := 4) (a := 8) (zz_Ks hz (i := 8) (by decide)) jw_843 dX12_resetCorrections_1 rfl ?_
  refine jk_iconst (q := 5) dX12_resetCorrections_4 rfl ?_
  refine jk_iconst (q := 6) dX12_resetCorrections_5 rfl ?_
  refine jk_iconst (q := 7) dX12_resetCorrections_6 rfl ?_
  refine jk_iconst (q := 8) dX12_resetCorrections_7 rfl ?_
  refine jk_cV5g (q := 11) (c_X12_change (k := 8) hz hx hln hr ha hnn hsi hre hH (by decide) (by decide) (by decide) (by decide) (by decide)) jm_X12_change jw_427 rfl (by first | exact hx0 | exact hs.1 | exact hs.2.1 _ _ rfl | exact hfo.1 | exact hfo.2.1 _ _ rfl | exact hwa.1.1 | exact hwa.1.2.1 | exact hwa.1.2.2 | exact hsh.1.1 | exact hsh.1.2.1 | exact hhe.1.1 | exact hba.1.1 | exact hcc.1 | exact hH'.1 | exact hsc.1.1 | exact hB4.1 | exact hSN.1 | assumption) rfl rfl (by decide) (by decide) rfl dX12_resetCorrections_8 rfl (fun v' n' t' σ' ρ' hq => ?_) (fun E n' t' σ' ρ' hx9 => hx9)
  obtain ⟨h0, rfl, rfl, rfl, rfl, hp9⟩ := hq
  simp only [Option.toList_some, List.cons_append, List.nil_append]
  exact jk_iret rfl dX12_resetCorrections_11 (by exact ⟨h0, rfl, rfl, rfl, rfl, hp9⟩)
theorem c_X12_addProfile {G : jk_G} {n : Nat} {t : jk_T} {σ : jk_I} {ρ : jk_P} {x : Nat} {g : Int → Int} {B : Int} {c : Nat} {a : Int} {Hr : Nat → Int → Int} (hz : zz_ok G) (hx : zx_ok G) (hln : ln_at t ρ x) (hr : cl_rel σ (x + 2) g) (ha : md_all B g) (hnn : cl_nn σ (x + 2)) (hsi : md_sit g) (hre : hs_rel σ (x + 140) c Hr) (hH : ∀ j, j < c → Hr j 2 ≤ 4) (h_a : jk_in a) : jk_K G yX12_addProfile mX12_addProfile 1 6 [.ref x, jI a] n t σ ρ (ln_CQ x c Hr g (cl_do 9 g a 0 0 0) σ n t ρ) (ln_CX x 9 (cl_do 9 g a 0 0 0) σ n t ρ) := by
  obtain ⟨hx0, ⟨hx1, hx2, hx3, hx4, hx5, hx6, hx7, hx8, hx9, hx10, hx11, hx12⟩, hB4, hSN, hH', hhe, hba, hch, hsc⟩ := id hln
  obtain ⟨hcc, hwa, hsh, hwy, hyc⟩ := id hch
  obtain ⟨-, -, hfo, hfw⟩ := id hwa
  obtain ⟨-, -, -, -, hs, hsf⟩ := id hfo
  have hi := ha.1
  have hw := ha.2.1
  have hxx := ha.2.2.1
  have i0 := hi.1
  have i1 := hi.2.1
  have i2 := hi.2.2.1
  have i3 := hi.2.2.2.1
  obtain ⟨q0, q1, q2, q3⟩ := hr.1
  have hf0 : ln_fr x σ σ := fun _ _ => rfl
  refine jk_entryB (ls := [some (.ref x), some (jI a)]) jm_X12_addProfile.1 rfl rfl rfl ?_
  refine jk_aload_n (q := 1) dX12_addProfile_0 rfl rfl ?_
  refine jk_gets (q := 4) (a := 9) (zz_Ks hz (i := 9) (by decide)) jw_1628 dX12_addProfile_1 rfl ?_
  refine jk_iload_n (q := 5) dX12_addProfile_4 rfl rfl ?_
  refine jk_iconst (q := 6) dX12_addProfile_5 rfl ?_
  refine jk_iconst (q := 7) dX12_addProfile_6 rfl ?_
  refine jk_iconst (q := 8) dX12_addProfile_7 rfl ?_
  refine jk_cV5g (q := 11) (c_X12_change (k := 9) hz hx hln hr ha hnn hsi hre hH (by decide) h_a (by decide) (by decide) (by decide)) jm_X12_change jw_427 rfl (by first | exact hx0 | exact hs.1 | exact hs.2.1 _ _ rfl | exact hfo.1 | exact hfo.2.1 _ _ rfl | exact hwa.1.1 | exact hwa.1.2.1 | exact hwa.1.2.2 | exact hsh.1.1 | exact hsh.1.2.1 | exact hhe.1.1 | exact hba.1.1 | exact hcc.1 | exact hH'.1 | exact hsc.1.1 | exact hB4.1 | exact hSN.1 | assumption) rfl rfl (by decide) (by decide) rfl dX12_addProfile_8 rfl (fun v' n' t' σ' ρ' hq => ?_) (fun E n' t' σ' ρ' hx9 => hx9)
  obtain ⟨h0, rfl, rfl, rfl, rfl, hp9⟩ := hq
  simp only [Option.toList_some, List.cons_append, List.nil_append]
  exact jk_iret rfl dX12_addProfile_11 (by exact ⟨h0, rfl, rfl, rfl, rfl, hp9⟩)
theorem c_X12_addStation {G : jk_G} {n : Nat} {t : jk_T} {σ : jk_I} {ρ : jk_P} {x : Nat} {g : Int → Int} {B : Int} {c : Nat} {a b v : Int} {Hr : Nat → Int → Int} (hz : zz_ok G) (hx : zx_ok G) (hln : ln_at t ρ x) (hr : cl_rel σ (x + 2) g) (ha : md_all B g) (hnn : cl_nn σ (x + 2)) (hsi : md_sit g) (hre : hs_rel σ (x + 140) c Hr) (hH : ∀ j, j < c → Hr j 2 ≤ 4) (h_a : jk_in a) (h_b : jk_in b) (h_v : jk_in v) : jk_K G yX12_addStation mX12_addStation 1 6 [.ref x, jI a, jI b, jI v] n t σ ρ (ln_CQ x c Hr g (cl_do 10 g a b v 0) σ n t ρ) (ln_CX x 10 (cl_do 10 g a b v 0) σ n t ρ) := by
  obtain ⟨hx0, ⟨hx1, hx2, hx3, hx4, hx5, hx6, hx7, hx8, hx9, hx10, hx11, hx12⟩, hB4, hSN, hH', hhe, hba, hch, hsc⟩ := id hln
  obtain ⟨hcc, hwa, hsh, hwy, hyc⟩ := id hch
  obtain ⟨-, -, hfo, hfw⟩ := id hwa
  obtain ⟨-, -, -, -, hs, hsf⟩ := id hfo
  have hi := ha.1
  have hw := ha.2.1
  have hxx := ha.2.2.1
  have i0 := hi.1
  have i1 := hi.2.1
  have i2 := hi.2.2.1
  have i3 := hi.2.2.2.1
  obtain ⟨q0, q1, q2, q3⟩ := hr.1
  have hf0 : ln_fr x σ σ := fun _ _ => rfl
  refine jk_entryB (ls := [some (.ref x), some (jI a), some (jI b), some (jI v)]) jm_X12_addStation.1 rfl rfl rfl ?_
  refine jk_aload_n (q := 1) dX12_addStation_0 rfl rfl ?_
  refine jk_gets (q := 4) (a := 10) (zz_Ks hz (i := 10) (by decide)) jw_1634 dX12_addStation_1 rfl ?_
  refine jk_iload_n (q := 5) dX12_addStation_4 rfl rfl ?_
  refine jk_iload_n (q := 6) dX12_addStation_5 rfl rfl ?_
  refine jk_iload_n (q := 7) dX12_addStation_6 rfl rfl ?_
  refine jk_iconst (q := 8) dX12_addStation_7 rfl ?_
  refine jk_cV5g (q := 11) (c_X12_change (k := 10) hz hx hln hr ha hnn hsi hre hH (by decide) h_a h_b h_v (by decide)) jm_X12_change jw_427 rfl (by first | exact hx0 | exact hs.1 | exact hs.2.1 _ _ rfl | exact hfo.1 | exact hfo.2.1 _ _ rfl | exact hwa.1.1 | exact hwa.1.2.1 | exact hwa.1.2.2 | exact hsh.1.1 | exact hsh.1.2.1 | exact hhe.1.1 | exact hba.1.1 | exact hcc.1 | exact hH'.1 | exact hsc.1.1 | exact hB4.1 | exact hSN.1 | assumption) rfl rfl (by decide) (by decide) rfl dX12_addStation_8 rfl (fun v' n' t' σ' ρ' hq => ?_) (fun E n' t' σ' ρ' hx9 => hx9)
  obtain ⟨h0, rfl, rfl, rfl, rfl, hp9⟩ := hq
  simp only [Option.toList_some, List.cons_append, List.nil_append]
  exact jk_iret rfl dX12_addStation_11 (by exact ⟨h0, rfl, rfl, rfl, rfl, hp9⟩)
theorem c_X12_setWaterLevel {G : jk_G} {n : Nat} {t : jk_T} {σ : jk_I} {ρ : jk_P} {x : Nat} {g : Int → Int} {B : Int} {c : Nat} {a : Int} {Hr : Nat → Int → Int} (hz : zz_ok G) (hx : zx_ok G) (hln : ln_at t ρ x) (hr : cl_rel σ (x + 2) g) (ha : md_all B g) (hnn : cl_nn σ (x + 2)) (hsi : md_sit g) (hre : hs_rel σ (x + 140) c Hr) (hH : ∀ j, j < c → Hr j 2 ≤ 4) (h_a : jk_in a) : jk_K G yX12_setWaterLevel mX12_setWaterLevel 1 6 [.ref x, jI a] n t σ ρ (ln_CQ x c Hr g (cl_do 11 g a 0 0 0) σ n t ρ) (ln_CX x 11 (cl_do 11 g a 0 0 0) σ n t ρ) := by
  obtain ⟨hx0, ⟨hx1, hx2, hx3, hx4, hx5, hx6, hx7, hx8, hx9, hx10, hx11, hx12⟩, hB4, hSN, hH', hhe, hba, hch, hsc⟩ := id hln
  obtain ⟨hcc, hwa, hsh, hwy, hyc⟩ := id hch
  obtain ⟨-, -, hfo, hfw⟩ := id hwa
  obtain ⟨-, -, -, -, hs, hsf⟩ := id hfo
  have hi := ha.1
  have hw := ha.2.1
  have hxx := ha.2.2.1
  have i0 := hi.1
  have i1 := hi.2.1
  have i2 := hi.2.2.1
  have i3 := hi.2.2.2.1
  obtain ⟨q0, q1, q2, q3⟩ := hr.1
  have hf0 : ln_fr x σ σ := fun _ _ => rfl
  refine jk_entryB (ls := [some (.ref x), some (jI a)]) jm_X12_setWaterLevel.1 rfl rfl rfl ?_
  refine jk_aload_n (q := 1) dX12_setWaterLevel_0 rfl rfl ?_
  refine jk_gets (q := 4) (a := 11) (zz_Ks hz (i := 11) (by decide)) jw_849 dX12_setWaterLevel_1 rfl ?_
  refine jk_iload_n (q := 5) dX12_setWaterLevel_4 rfl rfl ?_
  refine jk_iconst (q := 6) dX12_setWaterLevel_5 rfl ?_
  refine jk_iconst (q := 7) dX12_setWaterLevel_6 rfl ?_
  refine jk_iconst (q := 8) dX12_setWaterLevel_7 rfl ?_
  refine jk_cV5g (q := 11) (c_X12_change (k := 11) hz hx hln hr ha hnn hsi hre hH (by decide) h_a (by decide) (by decide) (by decide)) jm_X12_change jw_427 rfl (by first | exact hx0 | exact hs.1 | exact hs.2.1 _ _ rfl | exact hfo.1 | exact hfo.2.1 _ _ rfl | exact hwa.1.1 | exact hwa.1.2.1 | exact hwa.1.2.2 | exact hsh.1.1 | exact hsh.1.2.1 | exact hhe.1.1 | exact hba.1.1 | exact hcc.1 | exact hH'.1 | exact hsc.1.1 | exact hB4.1 | exact hSN.1 | assumption) rfl rfl (by decide) (by decide) rfl dX12_setWaterLevel_8 rfl (fun v' n' t' σ' ρ' hq => ?_) (fun E n' t' σ' ρ' hx9 => hx9)
  obtain ⟨h0, rfl, rfl, rfl, rfl, hp9⟩ := hq
  simp only [Option.toList_some, List.cons_append, List.nil_append]
  exact jk_iret rfl dX12_setWaterLevel_11 (by exact ⟨h0, rfl, rfl, rfl, rfl, hp9⟩)
theorem c_X12_errorPosition {G : jk_G} {n : Nat} {t : jk_T} {σ : jk_I} {ρ : jk_P} {x : Nat} {g : Int → Int} {B : Int} {e : Int} (hz : zz_ok G) (hx : zx_ok G) (hln : ln_at t ρ x) (hr : cl_rel σ (x + 2) g) (ha : md_all B g) (hnn : cl_nn σ (x + 2)) (hsi : md_sit g) (he : σ x 13 = e) (heb : -1 ≤ e ∧ e ≤ 100) : jk_K G yX12_errorPosition mX12_errorPosition 1 6 [.ref x] n t σ ρ (ln_RQ x ((if e = -1 then ((1, 0) : Int × Int) else (0, e)).1) (jI (if e = -1 then ((1, 0) : Int × Int) else (0, e)).2) σ n t ρ) (ln_RX x ((if e = -1 then ((1, 0) : Int × Int) else (0, e)).1) (ex_1 "java/util/NoSuchElementException") σ n t ρ) := by
  obtain ⟨hx0, ⟨hx1, hx2, hx3, hx4, hx5, hx6, hx7, hx8, hx9, hx10, hx11, hx12⟩, hB4, hSN, hH, hhe, hba, hch, hsc⟩ := id hln
  obtain ⟨hcc, hwa, hsh, hwy, hyc⟩ := id hch
  obtain ⟨-, -, hfo, hfw⟩ := id hwa
  obtain ⟨-, -, -, -, hs, hsf⟩ := id hfo
  have hi := ha.1
  have hw := ha.2.1
  have hxx := ha.2.2.1
  have i0 := hi.1
  have i1 := hi.2.1
  have i2 := hi.2.2.1
  have i3 := hi.2.2.2.1
  obtain ⟨q0, q1, q2, q3⟩ := hr.1
  have hf0 : ln_fr x σ σ := fun _ _ => rfl
  refine jk_entryB (ls := [some (.ref x)]) jm_X12_errorPosition.1 rfl rfl rfl ?_
  refine jk_aload_n (q := 1) dX12_errorPosition_0 rfl rfl ?_
  refine jk_getIR (q := 4) (k := 12) 13 13 rfl (by first | exact hx0 | exact hs.1 | exact hs.2.1 _ _ rfl | exact hfo.1 | exact hfo.2.1 _ _ rfl | exact hwa.1.1 | exact hwa.1.2.1 | exact hwa.1.2.2 | exact hsh.1.1 | exact hsh.1.2.1 | exact hhe.1.1 | exact hba.1.1 | exact hcc.1 | exact hH.1 | exact hsc.1.1 | exact hB4.1 | exact hSN.1 | assumption) (by first | exact jk_row_same _ _ _ | ((repeat rewrite [jk_row_ne _ _ (by omega)]); first | exact jk_row_same _ _ _ | rfl)) rfl rfl jw_388 dX12_errorPosition_1 rfl ?_
  rw [he]
  refine jk_iconst (q := 5) dX12_errorPosition_4 rfl ?_
  refine jk_icmp_ne (q := 19) (q2 := 8) dX12_errorPosition_5 rfl rfl (by first | assumption | decide | omega | exact jB_01 _ | exact jB_in _ | exact ⟨by omega, by omega⟩) (by first | assumption | decide | omega | exact jB_01 _ | exact jB_in _ | exact ⟨by omega, by omega⟩) (fun z1 => ?_) (fun z1 => ?_)
  · refine jk_aload_n (q := 20) dX12_errorPosition_19 rfl rfl ?_
    refine jk_getIR (q := 23) (k := 12) 13 13 rfl (by first | exact hx0 | exact hs.1 | exact hs.2.1 _ _ rfl | exact hfo.1 | exact hfo.2.1 _ _ rfl | exact hwa.1.1 | exact hwa.1.2.1 | exact hwa.1.2.2 | exact hsh.1.1 | exact hsh.1.2.1 | exact hhe.1.1 | exact hba.1.1 | exact hcc.1 | exact hH.1 | exact hsc.1.1 | exact hB4.1 | exact hSN.1 | assumption) (by first | exact jk_row_same _ _ _ | ((repeat rewrite [jk_row_ne _ _ (by omega)]); first | exact jk_row_same _ _ _ | rfl)) rfl rfl jw_388 dX12_errorPosition_20 rfl ?_
    rw [he]
    exact jk_iret rfl dX12_errorPosition_23 (by exact ln_rqI hf0 (by rw [if_neg (by omega)]))
  · exact jk_throwXW (jt_412_173 hx) rfl (by decide) (by decide) (by decide) (by decide) (by decide) dX12_errorPosition_8 dX12_errorPosition_11 dX12_errorPosition_12 dX12_errorPosition_15 dX12_errorPosition_18 (fun n' hn' => ln_rx (c := 1) hn' hf0 (by rw [if_pos (by omega)]) (by decide) rfl)
theorem c_X12_failedCommand {G : jk_G} {n : Nat} {t : jk_T} {σ : jk_I} {ρ : jk_P} {x : Nat} {g : Int → Int} {B : Int} {e : Int} (hz : zz_ok G) (hx : zx_ok G) (hln : ln_at t ρ x) (hr : cl_rel σ (x + 2) g) (ha : md_all B g) (hnn : cl_nn σ (x + 2)) (hsi : md_sit g) (he : σ x 14 = e) (heb : -1 ≤ e ∧ e ≤ 100) : jk_K G yX12_failedCommand mX12_failedCommand 1 6 [.ref x] n t σ ρ (ln_RQ x ((if e = -1 then ((1, 0) : Int × Int) else (0, e)).1) (jI (if e = -1 then ((1, 0) : Int × Int) else (0, e)).2) σ n t ρ) (ln_RX x ((if e = -1 then ((1, 0) : Int × Int) else (0, e)).1) (ex_1 "java/util/NoSuchElementException") σ n t ρ) := by
  obtain ⟨hx0, ⟨hx1, hx2, hx3, hx4, hx5, hx6, hx7, hx8, hx9, hx10, hx11, hx12⟩, hB4, hSN, hH, hhe, hba, hch, hsc⟩ := id hln
  obtain ⟨hcc, hwa, hsh, hwy, hyc⟩ := id hch
  obtain ⟨-, -, hfo, hfw⟩ := id hwa
  obtain ⟨-, -, -, -, hs, hsf⟩ := id hfo
  have hi := ha.1
  have hw := ha.2.1
  have hxx := ha.2.2.1
  have i0 := hi.1
  have i1 := hi.2.1
  have i2 := hi.2.2.1
  have i3 := hi.2.2.2.1
  obtain ⟨q0, q1, q2, q3⟩ := hr.1
  have hf0 : ln_fr x σ σ := fun _ _ => rfl
  refine jk_entryB (ls := [some (.ref x)]) jm_X12_failedCommand.1 rfl rfl rfl ?_
  refine jk_aload_n (q := 1) dX12_failedCommand_0 rfl rfl ?_
  refine jk_getIR (q := 4) (k := 12) 14 14 rfl (by first | exact hx0 | exact hs.1 | exact hs.2.1 _ _ rfl | exact hfo.1 | exact hfo.2.1 _ _ rfl | exact hwa.1.1 | exact hwa.1.2.1 | exact hwa.1.2.2 | exact hsh.1.1 | exact hsh.1.2.1 | exact hhe.1.1 | exact hba.1.1 | exact hcc.1 | exact hH.1 | exact hsc.1.1 | exact hB4.1 | exact hSN.1 | assumption) (by first | exact jk_row_same _ _ _ | ((repeat rewrite [jk_row_ne _ _ (by omega)]); first | exact jk_row_same _ _ _ | rfl)) rfl rfl jw_389 dX12_failedCommand_1 rfl ?_
  rw [he]
  refine jk_iconst (q := 5) dX12_failedCommand_4 rfl ?_
  refine jk_icmp_ne (q := 19) (q2 := 8) dX12_failedCommand_5 rfl rfl (by first | assumption | decide | omega | exact jB_01 _ | exact jB_in _ | exact ⟨by omega, by omega⟩) (by first | assumption | decide | omega | exact jB_01 _ | exact jB_in _ | exact ⟨by omega, by omega⟩) (fun z1 => ?_) (fun z1 => ?_)
  · refine jk_aload_n (q := 20) dX12_failedCommand_19 rfl rfl ?_
    refine jk_getIR (q := 23) (k := 12) 14 14 rfl (by first | exact hx0 | exact hs.1 | exact hs.2.1 _ _ rfl | exact hfo.1 | exact hfo.2.1 _ _ rfl | exact hwa.1.1 | exact hwa.1.2.1 | exact hwa.1.2.2 | exact hsh.1.1 | exact hsh.1.2.1 | exact hhe.1.1 | exact hba.1.1 | exact hcc.1 | exact hH.1 | exact hsc.1.1 | exact hB4.1 | exact hSN.1 | assumption) (by first | exact jk_row_same _ _ _ | ((repeat rewrite [jk_row_ne _ _ (by omega)]); first | exact jk_row_same _ _ _ | rfl)) rfl rfl jw_389 dX12_failedCommand_20 rfl ?_
    rw [he]
    exact jk_iret rfl dX12_failedCommand_23 (by exact ln_rqI hf0 (by rw [if_neg (by omega)]))
  · exact jk_throwXW (jt_414_173 hx) rfl (by decide) (by decide) (by decide) (by decide) (by decide) dX12_failedCommand_8 dX12_failedCommand_11 dX12_failedCommand_12 dX12_failedCommand_15 dX12_failedCommand_18 (fun n' hn' => ln_rx (c := 1) hn' hf0 (by rw [if_pos (by omega)]) (by decide) rfl)
theorem c_X12_undo {G : jk_G} {n : Nat} {t : jk_T} {σ : jk_I} {ρ : jk_P} {x : Nat} {g : Int → Int} {B : Int} {c : Nat} {Hr : Nat → Int → Int} (hz : zz_ok G) (hx : zx_ok G) (hln : ln_at t ρ x) (hr : cl_rel σ (x + 2) g) (ha : md_all B g) (hnn : cl_nn σ (x + 2)) (hsi : md_sit g) (hre : hs_rel σ (x + 140) c Hr) (hiH : ∀ j, j < c → md_inv B (Hr j)) : jk_K G yX12_undo mX12_undo 1 6 [.ref x] n t σ ρ (fun v' n' t' σ' ρ' => 0 < c ∧ v' = some (jI ((c : Int) - 1)) ∧ n' = n ∧ t' = t ∧ ρ' = ρ ∧ cl_rel σ' (x + 2) (Hr (c - 1)) ∧ cl_nn σ' (x + 2) ∧ hs_rel σ' (x + 140) (c - 1) Hr ∧ ln_fc x σ σ') (fun E n' t' σ' ρ' => c = 0 ∧ E = "java/util/NoSuchElementException" ∧ n ≤ n' ∧ t' = t ∧ ρ' = ρ ∧ σ' = σ) := by
  obtain ⟨hx0, ⟨hx1, hx2, hx3, hx4, hx5, hx6, hx7, hx8, hx9, hx10, hx11, hx12⟩, hB4, hSN, hH', hhe, hba, hch, hsc⟩ := id hln
  obtain ⟨hcc, hwa, hsh, hwy, hyc⟩ := id hch
  obtain ⟨-, -, hfo, hfw⟩ := id hwa
  obtain ⟨-, -, -, -, hs, hsf⟩ := id hfo
  have hi := ha.1
  have hw := ha.2.1
  have hxx := ha.2.2.1
  have i0 := hi.1
  have i1 := hi.2.1
  have i2 := hi.2.2.1
  have i3 := hi.2.2.2.1
  obtain ⟨q0, q1, q2, q3⟩ := hr.1
  have hf0 : ln_fr x σ σ := fun _ _ => rfl
  have hsz : σ (x + 140) 2 = (c : Int) := by obtain ⟨-, nx, -, -, h, -⟩ := id hre; exact h
  have hc8 := hre.1
  refine jk_entryB (ls := [some (.ref x)]) jm_X12_undo.1 rfl rfl rfl ?_
  refine jk_aload_n (q := 1) dX12_undo_0 rfl rfl ?_
  refine jk_getA (q := 4) (k := 12) 4 4 rfl (by first | exact hx0 | exact hs.1 | exact hs.2.1 _ _ rfl | exact hfo.1 | exact hfo.2.1 _ _ rfl | exact hwa.1.1 | exact hwa.1.2.1 | exact hwa.1.2.2 | exact hsh.1.1 | exact hsh.1.2.1 | exact hhe.1.1 | exact hba.1.1 | exact hcc.1 | exact hH'.1 | exact hsc.1.1 | exact hB4.1 | exact hSN.1 | assumption) (by first | assumption | exact hs.2.2.1 _ _ rfl | exact hfo.2.2.1 _ _ rfl | exact hwa.2.1.2.2.1 | exact hsh.2.1.2.1) rfl rfl jw_379 dX12_undo_1 rfl ?_
  refine jk_getIR (q := 7) (k := 5) 2 2 rfl (by first | exact hx0 | exact hs.1 | exact hs.2.1 _ _ rfl | exact hfo.1 | exact hfo.2.1 _ _ rfl | exact hwa.1.1 | exact hwa.1.2.1 | exact hwa.1.2.2 | exact hsh.1.1 | exact hsh.1.2.1 | exact hhe.1.1 | exact hba.1.1 | exact hcc.1 | exact hH'.1 | exact hsc.1.1 | exact hB4.1 | exact hSN.1 | assumption) (by first | exact jk_row_same _ _ _ | ((repeat rewrite [jk_row_ne _ _ (by omega)]); first | exact jk_row_same _ _ _ | rfl)) rfl rfl jw_175 dX12_undo_4 rfl ?_
  rw [hsz]
  refine jk_if_ne (q := 21) (q2 := 10) dX12_undo_7 rfl rfl (by first | assumption | decide | omega | exact jB_01 _ | exact jB_in _ | exact ⟨by omega, by omega⟩) (fun z1 => ?_) (fun z1 => ?_)
  · refine jk_aload_n (q := 22) dX12_undo_21 rfl rfl ?_
    refine jk_getA (q := 25) (k := 12) 4 4 rfl (by first | exact hx0 | exact hs.1 | exact hs.2.1 _ _ rfl | exact hfo.1 | exact hfo.2.1 _ _ rfl | exact hwa.1.1 | exact hwa.1.2.1 | exact hwa.1.2.2 | exact hsh.1.1 | exact hsh.1.2.1 | exact hhe.1.1 | exact hba.1.1 | exact hcc.1 | exact hH'.1 | exact hsc.1.1 | exact hB4.1 | exact hSN.1 | assumption) (by first | assumption | exact hs.2.2.1 _ _ rfl | exact hfo.2.2.1 _ _ rfl | exact hwa.2.1.2.2.1 | exact hsh.2.1.2.1) rfl rfl jw_379 dX12_undo_22 rfl ?_
    refine jk_aload_n (q := 26) dX12_undo_25 rfl rfl ?_
    refine jk_getA (q := 29) (k := 12) 0 0 rfl (by first | exact hx0 | exact hs.1 | exact hs.2.1 _ _ rfl | exact hfo.1 | exact hfo.2.1 _ _ rfl | exact hwa.1.1 | exact hwa.1.2.1 | exact hwa.1.2.2 | exact hsh.1.1 | exact hsh.1.2.1 | exact hhe.1.1 | exact hba.1.1 | exact hcc.1 | exact hH'.1 | exact hsc.1.1 | exact hB4.1 | exact hSN.1 | assumption) (by first | assumption | exact hs.2.2.1 _ _ rfl | exact hfo.2.2.1 _ _ rfl | exact hwa.2.1.2.2.1 | exact hsh.2.1.2.1) rfl rfl jw_375 dX12_undo_26 rfl ?_
    refine jk_cV1g (q := 32) (c_X5_popInto (B := B) hH' hs (by omega) (by omega) hiH hre) jm_X5_popInto jw_1580 rfl (by first | exact hx0 | exact hs.1 | exact hs.2.1 _ _ rfl | exact hfo.1 | exact hfo.2.1 _ _ rfl | exact hwa.1.1 | exact hwa.1.2.1 | exact hwa.1.2.2 | exact hsh.1.1 | exact hsh.1.2.1 | exact hhe.1.1 | exact hba.1.1 | exact hcc.1 | exact hH'.1 | exact hsc.1.1 | exact hB4.1 | exact hSN.1 | assumption) rfl rfl (Nat.zero_le _) (Nat.zero_le _) rfl dX12_undo_29 rfl (fun v' n' t' σ1 ρ' hq => ?_) (fun _ _ _ _ _ h => h.elim)
    obtain ⟨rfl, hn9, ht9, hr9, hr1, hn1, hre1, hp1⟩ := hq
    replace hn9 := hn9.symm; replace ht9 := ht9.symm; replace hr9 := hr9.symm; subst hn9 ht9 hr9
    simp only [Option.toList_some, Option.toList_none, List.cons_append, List.nil_append, Nat.sub_zero]
    have hsz1 : σ1 (x + 140) 2 = (c : Int) - 1 := by obtain ⟨-, nx, -, -, h, -⟩ := id hre1; rw [h]; omega
    refine jk_aload_n (q := 33) dX12_undo_32 rfl rfl ?_
    refine jk_getA (q := 36) (k := 12) 4 4 rfl (by first | exact hx0 | exact hs.1 | exact hs.2.1 _ _ rfl | exact hfo.1 | exact hfo.2.1 _ _ rfl | exact hwa.1.1 | exact hwa.1.2.1 | exact hwa.1.2.2 | exact hsh.1.1 | exact hsh.1.2.1 | exact hhe.1.1 | exact hba.1.1 | exact hcc.1 | exact hH'.1 | exact hsc.1.1 | exact hB4.1 | exact hSN.1 | assumption) (by first | assumption | exact hs.2.2.1 _ _ rfl | exact hfo.2.2.1 _ _ rfl | exact hwa.2.1.2.2.1 | exact hsh.2.1.2.1) rfl rfl jw_379 dX12_undo_33 rfl ?_
    refine jk_getIR (q := 39) (k := 5) 2 2 rfl (by first | exact hx0 | exact hs.1 | exact hs.2.1 _ _ rfl | exact hfo.1 | exact hfo.2.1 _ _ rfl | exact hwa.1.1 | exact hwa.1.2.1 | exact hwa.1.2.2 | exact hsh.1.1 | exact hsh.1.2.1 | exact hhe.1.1 | exact hba.1.1 | exact hcc.1 | exact hH'.1 | exact hsc.1.1 | exact hB4.1 | exact hSN.1 | assumption) (by first | exact jk_row_same _ _ _ | ((repeat rewrite [jk_row_ne _ _ (by omega)]); first | exact jk_row_same _ _ _ | rfl)) rfl rfl jw_175 dX12_undo_36 rfl ?_
    rw [hsz1]
    exact jk_iret rfl dX12_undo_39 (by exact ⟨by omega, rfl, rfl, rfl, rfl, hr1, hn1 hnn, hre1, fun a h1 h2 => hp1 a (by omega) (by omega)⟩)
  · exact jk_throwXW (jt_417_173 hx) rfl (by decide) (by decide) (by decide) (by decide) (by decide) dX12_undo_10 dX12_undo_13 dX12_undo_14 dX12_undo_17 dX12_undo_20 (fun n' hn' => ⟨by omega, rfl, hn', rfl, rfl, rfl⟩)
theorem c_X12_save {G : jk_G} {n : Nat} {t : jk_T} {σ : jk_I} {ρ : jk_P} {x : Nat} {g : Int → Int} {B : Int}  (hz : zz_ok G) (hx : zx_ok G) (hln : ln_at t ρ x) (hr : cl_rel σ (x + 2) g) (ha : md_all B g) (hnn : cl_nn σ (x + 2)) (hsi : md_sit g)  : jk_K G yX12_save mX12_save 0 0 [.ref x] n t σ ρ (fun v' n' t' σ' ρ' => v' = some (jI (g 1)) ∧ n' = n ∧ t' = t ∧ ρ' = ρ ∧ cl_rel σ' (x + 94) g ∧ (cl_nn σ (x + 94) → cl_nn σ' (x + 94)) ∧ σ' x = jk_set (σ x) 3 1 ∧ ∀ a, a ≠ x → (a < x + 94 ∨ x + 138 < a) → σ' a = σ a) jk_no := by
  obtain ⟨hx0, ⟨hx1, hx2, hx3, hx4, hx5, hx6, hx7, hx8, hx9, hx10, hx11, hx12⟩, hB4, hSN, hH, hhe, hba, hch, hsc⟩ := id hln
  obtain ⟨hcc, hwa, hsh, hwy, hyc⟩ := id hch
  obtain ⟨-, -, hfo, hfw⟩ := id hwa
  obtain ⟨-, -, -, -, hs, hsf⟩ := id hfo
  have hi := ha.1
  have hw := ha.2.1
  have hxx := ha.2.2.1
  have i0 := hi.1
  have i1 := hi.2.1
  have i2 := hi.2.2.1
  have i3 := hi.2.2.2.1
  obtain ⟨q0, q1, q2, q3⟩ := hr.1
  have hf0 : ln_fr x σ σ := fun _ _ => rfl
  refine jk_entryB (ls := [some (.ref x)]) jm_X12_save.1 rfl rfl rfl ?_
  refine jk_aload_n (q := 1) dX12_save_0 rfl rfl ?_
  refine jk_getA (q := 4) (k := 12) 2 2 rfl (by first | exact hx0 | exact hs.1 | exact hs.2.1 _ _ rfl | exact hfo.1 | exact hfo.2.1 _ _ rfl | exact hwa.1.1 | exact hwa.1.2.1 | exact hwa.1.2.2 | exact hsh.1.1 | exact hsh.1.2.1 | exact hhe.1.1 | exact hba.1.1 | exact hcc.1 | exact hH.1 | exact hsc.1.1 | exact hB4.1 | exact hSN.1 | assumption) (by first | assumption | exact hs.2.2.1 _ _ rfl | exact hfo.2.2.1 _ _ rfl | exact hwa.2.1.2.2.1 | exact hsh.2.1.2.1) rfl rfl jw_377 dX12_save_1 rfl ?_
  refine jk_aload_n (q := 5) dX12_save_4 rfl rfl ?_
  refine jk_getA (q := 8) (k := 12) 0 0 rfl (by first | exact hx0 | exact hs.1 | exact hs.2.1 _ _ rfl | exact hfo.1 | exact hfo.2.1 _ _ rfl | exact hwa.1.1 | exact hwa.1.2.1 | exact hwa.1.2.2 | exact hsh.1.1 | exact hsh.1.2.1 | exact hhe.1.1 | exact hba.1.1 | exact hcc.1 | exact hH.1 | exact hsc.1.1 | exact hB4.1 | exact hSN.1 | assumption) (by first | assumption | exact hs.2.2.1 _ _ rfl | exact hfo.2.2.1 _ _ rfl | exact hwa.2.1.2.2.1 | exact hsh.2.1.2.1) rfl rfl jw_375 dX12_save_5 rfl ?_
  refine jk_cV1g (q := 11) (c_X9_copyFrom hSN hs (by omega) hr hi) jm_X9_copyFrom jw_1563 rfl (by first | exact hx0 | exact hs.1 | exact hs.2.1 _ _ rfl | exact hfo.1 | exact hfo.2.1 _ _ rfl | exact hwa.1.1 | exact hwa.1.2.1 | exact hwa.1.2.2 | exact hsh.1.1 | exact hsh.1.2.1 | exact hhe.1.1 | exact hba.1.1 | exact hcc.1 | exact hH.1 | exact hsc.1.1 | exact hB4.1 | exact hSN.1 | assumption) rfl rfl (Nat.zero_le _) (Nat.zero_le _) rfl dX12_save_8 rfl (fun v' n' t' σ1 ρ' hq => ?_) (fun _ _ _ _ _ h => h.elim)
  obtain ⟨rfl, hn9, ht9, hr9, hr1, hn1, hp1⟩ := hq
  replace hn9 := hn9.symm; replace ht9 := ht9.symm; replace hr9 := hr9.symm; subst hn9 ht9 hr9
  simp only [Option.toList_some, Option.toList_none, List.cons_append, List.nil_append, Nat.sub_zero]
  refine jk_aload_n (q := 12) dX12_save_11 rfl rfl ?_
  refine jk_iconst (q := 13) dX12_save_12 rfl ?_
  refine jk_putZR (q := 16) (k := 12) 3 3 rfl (by first | exact hx0 | exact hs.1 | exact hs.2.1 _ _ rfl | exact hfo.1 | exact hfo.2.1 _ _ rfl | exact hwa.1.1 | exact hwa.1.2.1 | exact hwa.1.2.2 | exact hsh.1.1 | exact hsh.1.2.1 | exact hhe.1.1 | exact hba.1.1 | exact hcc.1 | exact hH.1 | exact hsc.1.1 | exact hB4.1 | exact hSN.1 | assumption) (by first | exact jk_row_same _ _ _ | ((repeat rewrite [jk_row_ne _ _ (by omega)]); first | exact jk_row_same _ _ _ | rfl)) rfl rfl rfl (by first | assumption | decide | omega | exact jB_01 _ | exact jB_in _ | exact ⟨by omega, by omega⟩) jw_378 dX12_save_13 rfl ?_
  refine jk_aload_n (q := 17) dX12_save_16 rfl rfl ?_
  refine jk_getA (q := 20) (k := 12) 0 0 rfl (by first | exact hx0 | exact hs.1 | exact hs.2.1 _ _ rfl | exact hfo.1 | exact hfo.2.1 _ _ rfl | exact hwa.1.1 | exact hwa.1.2.1 | exact hwa.1.2.2 | exact hsh.1.1 | exact hsh.1.2.1 | exact hhe.1.1 | exact hba.1.1 | exact hcc.1 | exact hH.1 | exact hsc.1.1 | exact hB4.1 | exact hSN.1 | assumption) (by first | assumption | exact hs.2.2.1 _ _ rfl | exact hfo.2.2.1 _ _ rfl | exact hwa.2.1.2.2.1 | exact hsh.2.1.2.1) rfl rfl jw_375 dX12_save_17 rfl ?_
  refine jk_getIR (q := 23) (k := 9) 3 3 rfl (by first | exact hx0 | exact hs.1 | exact hs.2.1 _ _ rfl | exact hfo.1 | exact hfo.2.1 _ _ rfl | exact hwa.1.1 | exact hwa.1.2.1 | exact hwa.1.2.2 | exact hsh.1.1 | exact hsh.1.2.1 | exact hhe.1.1 | exact hba.1.1 | exact hcc.1 | exact hH.1 | exact hsc.1.1 | exact hB4.1 | exact hSN.1 | assumption) (by first | exact jk_row_same _ _ _ | ((repeat rewrite [jk_row_ne _ _ (by omega)]); first | exact jk_row_same _ _ _ | rfl)) rfl rfl jw_72 dX12_save_20 rfl ?_
  rw [show σ1 (x + 2) 3 = g 1 by rw [hp1 _ (by omega)]; exact q1]
  exact jk_iret rfl dX12_save_23 (by 
          have hne : ∀ a, a ≠ x → (jk_row σ1 x (jk_set (σ1 x) 3 1)) a = σ1 a := fun a ha => jk_row_ne _ _ ha
          exact ⟨rfl, rfl, rfl, rfl, cl_rel_same i2.2 (fun a h1 h2 => hne a (by omega)) hr1, fun h => cl_nn_same (fun q hq => hne _ (by omega)) (hn1 h hnn), by rw [jk_row_same, hp1 x (by omega)], fun a h1 h2 => (hne a h1).trans (hp1 a (by omega))⟩)
theorem c_X12_restore {G : jk_G} {n : Nat} {t : jk_T} {σ : jk_I} {ρ : jk_P} {x : Nat} {g : Int → Int} {B : Int} {sv : Int → Int} {B2 : Int} (hz : zz_ok G) (hx : zx_ok G) (hln : ln_at t ρ x) (hr : cl_rel σ (x + 2) g) (ha : md_all B g) (hnn : cl_nn σ (x + 2)) (hsi : md_sit g) (hsp : σ x 3 = 0 ∨ σ x 3 = 1) (hrs : σ x 3 = 1 → cl_rel σ (x + 94) sv) (his : md_inv B2 sv) (hns : cl_nn σ (x + 94)) : jk_K G yX12_restore mX12_restore 1 6 [.ref x] n t σ ρ (fun v' n' t' σ' ρ' => σ x 3 = 1 ∧ v' = some (jI (sv 1)) ∧ n' = n ∧ t' = t ∧ ρ' = ρ ∧ cl_rel σ' (x + 2) sv ∧ cl_nn σ' (x + 2) ∧ σ' (x + 140) = jk_set (σ (x + 140)) 2 0 ∧ ∀ a, a ≠ x + 140 → (a < x + 2 ∨ x + 46 < a) → σ' a = σ a) (fun E n' t' σ' ρ' => σ x 3 = 0 ∧ E = "java/lang/IllegalStateException" ∧ n ≤ n' ∧ t' = t ∧ ρ' = ρ ∧ σ' = σ) := by
  obtain ⟨hx0, ⟨hx1, hx2, hx3, hx4, hx5, hx6, hx7, hx8, hx9, hx10, hx11, hx12⟩, hB4, hSN, hH, hhe, hba, hch, hsc⟩ := id hln
  obtain ⟨hcc, hwa, hsh, hwy, hyc⟩ := id hch
  obtain ⟨-, -, hfo, hfw⟩ := id hwa
  obtain ⟨-, -, -, -, hs, hsf⟩ := id hfo
  have hi := ha.1
  have hw := ha.2.1
  have hxx := ha.2.2.1
  have i0 := hi.1
  have i1 := hi.2.1
  have i2 := hi.2.2.1
  have i3 := hi.2.2.2.1
  obtain ⟨q0, q1, q2, q3⟩ := hr.1
  have hf0 : ln_fr x σ σ := fun _ _ => rfl
  refine jk_entryB (ls := [some (.ref x)]) jm_X12_restore.1 rfl rfl rfl ?_
  refine jk_aload_n (q := 1) dX12_restore_0 rfl rfl ?_
  refine jk_getIR (q := 4) (k := 12) 3 3 rfl (by first | exact hx0 | exact hs.1 | exact hs.2.1 _ _ rfl | exact hfo.1 | exact hfo.2.1 _ _ rfl | exact hwa.1.1 | exact hwa.1.2.1 | exact hwa.1.2.2 | exact hsh.1.1 | exact hsh.1.2.1 | exact hhe.1.1 | exact hba.1.1 | exact hcc.1 | exact hH.1 | exact hsc.1.1 | exact hB4.1 | exact hSN.1 | assumption) (by first | exact jk_row_same _ _ _ | ((repeat rewrite [jk_row_ne _ _ (by omega)]); first | exact jk_row_same _ _ _ | rfl)) rfl rfl jw_378 dX12_restore_1 rfl ?_
  refine jk_if_ne (q := 18) (q2 := 7) dX12_restore_4 rfl rfl (by first | assumption | decide | omega | exact jB_01 _ | exact jB_in _ | exact ⟨by omega, by omega⟩) (fun z1 => ?_) (fun z1 => ?_)
  · refine jk_aload_n (q := 19) dX12_restore_18 rfl rfl ?_
    refine jk_getA (q := 22) (k := 12) 0 0 rfl (by first | exact hx0 | exact hs.1 | exact hs.2.1 _ _ rfl | exact hfo.1 | exact hfo.2.1 _ _ rfl | exact hwa.1.1 | exact hwa.1.2.1 | exact hwa.1.2.2 | exact hsh.1.1 | exact hsh.1.2.1 | exact hhe.1.1 | exact hba.1.1 | exact hcc.1 | exact hH.1 | exact hsc.1.1 | exact hB4.1 | exact hSN.1 | assumption) (by first | assumption | exact hs.2.2.1 _ _ rfl | exact hfo.2.2.1 _ _ rfl | exact hwa.2.1.2.2.1 | exact hsh.2.1.2.1) rfl rfl jw_375 dX12_restore_19 rfl ?_
    refine jk_aload_n (q := 23) dX12_restore_22 rfl rfl ?_
    refine jk_getA (q := 26) (k := 12) 2 2 rfl (by first | exact hx0 | exact hs.1 | exact hs.2.1 _ _ rfl | exact hfo.1 | exact hfo.2.1 _ _ rfl | exact hwa.1.1 | exact hwa.1.2.1 | exact hwa.1.2.2 | exact hsh.1.1 | exact hsh.1.2.1 | exact hhe.1.1 | exact hba.1.1 | exact hcc.1 | exact hH.1 | exact hsc.1.1 | exact hB4.1 | exact hSN.1 | assumption) (by first | assumption | exact hs.2.2.1 _ _ rfl | exact hfo.2.2.1 _ _ rfl | exact hwa.2.1.2.2.1 | exact hsh.2.1.2.1) rfl rfl jw_377 dX12_restore_23 rfl ?_
    refine jk_cV1g (q := 29) (c_X9_copyFrom hs hSN (by omega) (hrs (by omega)) his) jm_X9_copyFrom jw_1563 rfl (by first | exact hx0 | exact hs.1 | exact hs.2.1 _ _ rfl | exact hfo.1 | exact hfo.2.1 _ _ rfl | exact hwa.1.1 | exact hwa.1.2.1 | exact hwa.1.2.2 | exact hsh.1.1 | exact hsh.1.2.1 | exact hhe.1.1 | exact hba.1.1 | exact hcc.1 | exact hH.1 | exact hsc.1.1 | exact hB4.1 | exact hSN.1 | assumption) rfl rfl (Nat.zero_le _) (Nat.zero_le _) rfl dX12_restore_26 rfl (fun v' n' t' σ1 ρ' hq => ?_) (fun _ _ _ _ _ h => h.elim)
    obtain ⟨rfl, hn9, ht9, hr9, hr1, hn1, hp1⟩ := hq
    replace hn9 := hn9.symm; replace ht9 := ht9.symm; replace hr9 := hr9.symm; subst hn9 ht9 hr9
    simp only [Option.toList_some, Option.toList_none, List.cons_append, List.nil_append, Nat.sub_zero]
    refine jk_aload_n (q := 30) dX12_restore_29 rfl rfl ?_
    refine jk_getA (q := 33) (k := 12) 4 4 rfl (by first | exact hx0 | exact hs.1 | exact hs.2.1 _ _ rfl | exact hfo.1 | exact hfo.2.1 _ _ rfl | exact hwa.1.1 | exact hwa.1.2.1 | exact hwa.1.2.2 | exact hsh.1.1 | exact hsh.1.2.1 | exact hhe.1.1 | exact hba.1.1 | exact hcc.1 | exact hH.1 | exact hsc.1.1 | exact hB4.1 | exact hSN.1 | assumption) (by first | assumption | exact hs.2.2.1 _ _ rfl | exact hfo.2.2.1 _ _ rfl | exact hwa.2.1.2.2.1 | exact hsh.2.1.2.1) rfl rfl jw_379 dX12_restore_30 rfl ?_
    refine jk_iconst (q := 34) dX12_restore_33 rfl ?_
    refine jk_putIR (q := 37) (k := 5) 2 2 rfl (by first | exact hx0 | exact hs.1 | exact hs.2.1 _ _ rfl | exact hfo.1 | exact hfo.2.1 _ _ rfl | exact hwa.1.1 | exact hwa.1.2.1 | exact hwa.1.2.2 | exact hsh.1.1 | exact hsh.1.2.1 | exact hhe.1.1 | exact hba.1.1 | exact hcc.1 | exact hH.1 | exact hsc.1.1 | exact hB4.1 | exact hSN.1 | assumption) (by first | exact jk_row_same _ _ _ | ((repeat rewrite [jk_row_ne _ _ (by omega)]); first | exact jk_row_same _ _ _ | rfl)) rfl rfl rfl jw_175 dX12_restore_34 rfl ?_
    refine jk_aload_n (q := 38) dX12_restore_37 rfl rfl ?_
    refine jk_getA (q := 41) (k := 12) 0 0 rfl (by first | exact hx0 | exact hs.1 | exact hs.2.1 _ _ rfl | exact hfo.1 | exact hfo.2.1 _ _ rfl | exact hwa.1.1 | exact hwa.1.2.1 | exact hwa.1.2.2 | exact hsh.1.1 | exact hsh.1.2.1 | exact hhe.1.1 | exact hba.1.1 | exact hcc.1 | exact hH.1 | exact hsc.1.1 | exact hB4.1 | exact hSN.1 | assumption) (by first | assumption | exact hs.2.2.1 _ _ rfl | exact hfo.2.2.1 _ _ rfl | exact hwa.2.1.2.2.1 | exact hsh.2.1.2.1) rfl rfl jw_375 dX12_restore_38 rfl ?_
    refine jk_getIR (q := 44) (k := 9) 3 3 rfl (by first | exact hx0 | exact hs.1 | exact hs.2.1 _ _ rfl | exact hfo.1 | exact hfo.2.1 _ _ rfl | exact hwa.1.1 | exact hwa.1.2.1 | exact hwa.1.2.2 | exact hsh.1.1 | exact hsh.1.2.1 | exact hhe.1.1 | exact hba.1.1 | exact hcc.1 | exact hH.1 | exact hsc.1.1 | exact hB4.1 | exact hSN.1 | assumption) (by first | exact jk_row_same _ _ _ | ((repeat rewrite [jk_row_ne _ _ (by omega)]); first | exact jk_row_same _ _ _ | rfl)) rfl rfl jw_72 dX12_restore_41 rfl ?_
    rw [hr1.1.2.1]
    exact jk_iret rfl dX12_restore_44 (by 
            have hne : ∀ a, a ≠ x + 140 → (jk_row σ1 (x + 140) (jk_set (σ1 (x + 140)) 2 0)) a = σ1 a := fun a ha => jk_row_ne _ _ ha
            exact ⟨by omega, rfl, rfl, rfl, rfl, cl_rel_same his.2.2.1.2 (fun a h1 h2 => hne a (by omega)) hr1, cl_nn_same (fun q hq => hne _ (by omega)) (hn1 hnn hns), by rw [jk_row_same, hp1 _ (by omega)], fun a h1 h2 => (hne a h1).trans (hp1 a (by omega))⟩)
  · exact jk_throwSW (jt_426_385 hx) rfl (by decide) (by decide) (by decide) (by decide) (by decide) dX12_restore_7 dX12_restore_10 dX12_restore_11 dX12_restore_14 dX12_restore_17 (fun n' hn' => ⟨by omega, rfl, hn', rfl, rfl, rfl⟩)
theorem c_X7_add {G : jk_G} {n : Nat} {t : jk_T} {σ : jk_I} {ρ : jk_P} {q : Nat} {c sz : Int} (hq : sc_at t ρ q) (hs : σ q 1 = sz) (hsz : 0 ≤ sz ∧ sz < 60) (hc : 0 ≤ c ∧ c < 65536) : jk_K G yX7_add mX7_add 0 0 [.ref q, jI c] n t σ ρ (jk_q none n t (jk_row (jk_row σ (q + 2) (jk_set (σ (q + 2)) sz c)) q (jk_set (σ q) 1 (sz + 1))) ρ) jk_no := by
  refine jk_entryB (ls := [some (.ref q), some (jI c)]) jm_X7_add.1 rfl rfl rfl ?_
  refine jk_aload_n (q := 1) dX7_add_0 rfl rfl ?_
  refine jk_getA (q := 4) (k := 7) 0 0 rfl (by first | exact hq.1.1 | exact hq.1.2.1) (by exact hq.2.1.1) rfl rfl jw_317 dX7_add_1 rfl ?_
  refine jk_aload_n (q := 5) dX7_add_4 rfl rfl ?_
  refine jk_getIR (q := 8) (k := 7) 1 1 rfl (by first | exact hq.1.1 | exact hq.1.2.1) (by first | exact jk_row_same _ _ _ | ((repeat rewrite [jk_row_ne _ _ (by omega)]); first | exact jk_row_same _ _ _ | rfl)) rfl rfl jw_318 dX7_add_5 rfl ?_
  rw [hs]
  refine jk_iload_n (q := 9) dX7_add_8 rfl rfl ?_
  refine jk_castR (q := 10) (by first | exact hq.1.1 | exact hq.1.2.1) (by first | exact jk_row_same _ _ _ | ((repeat rewrite [jk_row_ne _ _ (by omega)]); first | exact jk_row_same _ _ _ | rfl)) (by first | assumption | decide | omega | exact jB_01 _ | exact jB_in _ | exact ⟨by omega, by omega⟩) (by first | assumption | decide | omega | exact jB_01 _ | exact jB_in _ | exact ⟨by omega, by omega⟩) dX7_add_9 rfl ?_
  refine jk_aload_n (q := 11) dX7_add_10 rfl rfl ?_
  refine jk_dup (q := 12) dX7_add_11 rfl rfl ?_
  refine jk_getIR (q := 15) (k := 7) 1 1 rfl (by first | exact hq.1.1 | exact hq.1.2.1) (by first | exact jk_row_same _ _ _ | ((repeat rewrite [jk_row_ne _ _ (by omega)]); first | exact jk_row_same _ _ _ | rfl)) rfl rfl jw_318 dX7_add_12 rfl ?_
  rw [hs]
  refine jk_iconst (q := 16) dX7_add_15 rfl ?_
  refine jk_iadd (q := 17) dX7_add_16 rfl ?_
  refine jk_putIR (q := 20) (k := 7) 1 1 rfl (by first | exact hq.1.1 | exact hq.1.2.1) (by first | exact jk_row_same _ _ _ | ((repeat rewrite [jk_row_ne _ _ (by omega)]); first | exact jk_row_same _ _ _ | rfl)) rfl rfl rfl jw_318 dX7_add_17 rfl ?_
  exact jk_ret rfl dX7_add_20 (by exact jk_qr)
theorem c_X12_type {G : jk_G} {n : Nat} {t : jk_T} {σ : jk_I} {ρ : jk_P} {x : Nat} {g : Int → Int} {B : Int} {c sz : Int} (hz : zz_ok G) (hx : zx_ok G) (hln : ln_at t ρ x) (hr : cl_rel σ (x + 2) g) (ha : md_all B g) (hnn : cl_nn σ (x + 2)) (hsi : md_sit g) (hc : 0 ≤ c ∧ c < 65536) (hsz : σ (x + 550) 1 = sz) (hszb : 0 ≤ sz ∧ sz ≤ 60) : jk_K G yX12_type mX12_type 1 6 [.ref x, jI c] n t σ ρ (fun v' n' t' σ' ρ' => (md_in c 32 126 = true ∧ sz ≠ 60) ∧ v' = some (jI (sz + 1)) ∧ n' = n ∧ t' = t ∧ ρ' = ρ ∧ σ' = jk_row (jk_row σ (x + 552) (jk_set (σ (x + 552)) sz c)) (x + 550) (jk_set (σ (x + 550)) 1 (sz + 1))) (fun E n' t' σ' ρ' => ((md_in c 32 126 = false ∧ E = "java/lang/IllegalArgumentException") ∨ (md_in c 32 126 = true ∧ sz = 60 ∧ E = "java/lang/IllegalStateException")) ∧ n ≤ n' ∧ t' = t ∧ ρ' = ρ ∧ σ' = σ) := by
  obtain ⟨hx0, ⟨hx1, hx2, hx3, hx4, hx5, hx6, hx7, hx8, hx9, hx10, hx11, hx12⟩, hB4, hSN, hH, hhe, hba, hch, hsc⟩ := id hln
  obtain ⟨hcc, hwa, hsh, hwy, hyc⟩ := id hch
  obtain ⟨-, -, hfo, hfw⟩ := id hwa
  obtain ⟨-, -, -, -, hs, hsf⟩ := id hfo
  have hi := ha.1
  have hw := ha.2.1
  have hxx := ha.2.2.1
  have i0 := hi.1
  have i1 := hi.2.1
  have i2 := hi.2.2.1
  have i3 := hi.2.2.2.1
  obtain ⟨q0, q1, q2, q3⟩ := hr.1
  have hf0 : ln_fr x σ σ := fun _ _ => rfl
  refine jk_entryB (ls := [some (.ref x), some (jI c)]) jm_X12_type.1 rfl rfl rfl ?_
  refine jk_iload_n (q := 1) dX12_type_0 rfl rfl ?_
  refine jk_bipush (q := 3) (y := 32) dX12_type_1 rfl (by decide) ?_
  refine jk_bipush (q := 5) (y := 126) dX12_type_3 rfl (by decide) ?_
  refine jk_cS3p (q := 8) (c_X12_within (v := c) (lo := 32) (hi := 126) ⟨by omega, by omega⟩ (by decide) (by decide)) jm_X12_within jw_970 rfl rfl rfl dX12_type_5 rfl ?_
  refine jk_ifB_ne (q := 22) (q2 := 11) dX12_type_8 rfl rfl (fun z1 => ?_) (fun z1 => ?_)
  · refine jk_aload_n (q := 23) dX12_type_22 rfl rfl ?_
    refine jk_getA (q := 26) (k := 12) 11 11 rfl (by first | exact hx0 | exact hs.1 | exact hs.2.1 _ _ rfl | exact hfo.1 | exact hfo.2.1 _ _ rfl | exact hwa.1.1 | exact hwa.1.2.1 | exact hwa.1.2.2 | exact hsh.1.1 | exact hsh.1.2.1 | exact hhe.1.1 | exact hba.1.1 | exact hcc.1 | exact hH.1 | exact hsc.1.1 | exact hB4.1 | exact hSN.1 | assumption) (by first | assumption | exact hs.2.2.1 _ _ rfl | exact hfo.2.2.1 _ _ rfl | exact hwa.2.1.2.2.1 | exact hsh.2.1.2.1) rfl rfl jw_386 dX12_type_23 rfl ?_
    refine jk_getIR (q := 29) (k := 7) 1 1 rfl (by first | exact hx0 | exact hs.1 | exact hs.2.1 _ _ rfl | exact hfo.1 | exact hfo.2.1 _ _ rfl | exact hwa.1.1 | exact hwa.1.2.1 | exact hwa.1.2.2 | exact hsh.1.1 | exact hsh.1.2.1 | exact hhe.1.1 | exact hba.1.1 | exact hcc.1 | exact hH.1 | exact hsc.1.1 | exact hB4.1 | exact hSN.1 | assumption) (by first | exact jk_row_same _ _ _ | ((repeat rewrite [jk_row_ne _ _ (by omega)]); first | exact jk_row_same _ _ _ | rfl)) rfl rfl jw_319 dX12_type_26 rfl ?_
    rw [hsz]
    refine jk_bipush (q := 31) (y := 60) dX12_type_29 rfl (by decide) ?_
    refine jk_icmp_lt (q := 45) (q2 := 34) dX12_type_31 rfl rfl (by first | assumption | decide | omega | exact jB_01 _ | exact jB_in _ | exact ⟨by omega, by omega⟩) (by first | assumption | decide | omega | exact jB_01 _ | exact jB_in _ | exact ⟨by omega, by omega⟩) (fun z2 => ?_) (fun z2 => ?_)
    · refine jk_aload_n (q := 46) dX12_type_45 rfl rfl ?_
      refine jk_getA (q := 49) (k := 12) 11 11 rfl (by first | exact hx0 | exact hs.1 | exact hs.2.1 _ _ rfl | exact hfo.1 | exact hfo.2.1 _ _ rfl | exact hwa.1.1 | exact hwa.1.2.1 | exact hwa.1.2.2 | exact hsh.1.1 | exact hsh.1.2.1 | exact hhe.1.1 | exact hba.1.1 | exact hcc.1 | exact hH.1 | exact hsc.1.1 | exact hB4.1 | exact hSN.1 | assumption) (by first | assumption | exact hs.2.2.1 _ _ rfl | exact hfo.2.2.1 _ _ rfl | exact hwa.2.1.2.2.1 | exact hsh.2.1.2.1) rfl rfl jw_386 dX12_type_46 rfl ?_
      refine jk_iload_n (q := 50) dX12_type_49 rfl rfl ?_
      refine jk_cV1v (q := 53) (c_X7_add (sz := sz) hsc hsz ⟨by omega, by omega⟩ hc) jm_X7_add jw_1607 rfl (by first | exact hx0 | exact hs.1 | exact hs.2.1 _ _ rfl | exact hfo.1 | exact hfo.2.1 _ _ rfl | exact hwa.1.1 | exact hwa.1.2.1 | exact hwa.1.2.2 | exact hsh.1.1 | exact hsh.1.2.1 | exact hhe.1.1 | exact hba.1.1 | exact hcc.1 | exact hH.1 | exact hsc.1.1 | exact hB4.1 | exact hSN.1 | assumption) rfl rfl rfl dX12_type_50 rfl ?_
      refine jk_aload_n (q := 54) dX12_type_53 rfl rfl ?_
      refine jk_getA (q := 57) (k := 12) 11 11 rfl (by first | exact hx0 | exact hs.1 | exact hs.2.1 _ _ rfl | exact hfo.1 | exact hfo.2.1 _ _ rfl | exact hwa.1.1 | exact hwa.1.2.1 | exact hwa.1.2.2 | exact hsh.1.1 | exact hsh.1.2.1 | exact hhe.1.1 | exact hba.1.1 | exact hcc.1 | exact hH.1 | exact hsc.1.1 | exact hB4.1 | exact hSN.1 | assumption) (by first | assumption | exact hs.2.2.1 _ _ rfl | exact hfo.2.2.1 _ _ rfl | exact hwa.2.1.2.2.1 | exact hsh.2.1.2.1) rfl rfl jw_386 dX12_type_54 rfl ?_
      refine jk_getIR (q := 60) (k := 7) 1 1 rfl (by first | exact hx0 | exact hs.1 | exact hs.2.1 _ _ rfl | exact hfo.1 | exact hfo.2.1 _ _ rfl | exact hwa.1.1 | exact hwa.1.2.1 | exact hwa.1.2.2 | exact hsh.1.1 | exact hsh.1.2.1 | exact hhe.1.1 | exact hba.1.1 | exact hcc.1 | exact hH.1 | exact hsc.1.1 | exact hB4.1 | exact hSN.1 | assumption) (by first | exact jk_row_same _ _ _ | ((repeat rewrite [jk_row_ne _ _ (by omega)]); first | exact jk_row_same _ _ _ | rfl)) rfl rfl jw_319 dX12_type_57 rfl ?_
      exact jk_iret rfl dX12_type_60 (by exact ⟨⟨z1, by omega⟩, rfl, rfl, rfl, rfl, rfl⟩)
    · exact jk_throwSW (jt_383_385 hx) rfl (by decide) (by decide) (by decide) (by decide) (by decide) dX12_type_34 dX12_type_37 dX12_type_38 dX12_type_41 dX12_type_44 (fun n' hn' => ⟨Or.inr ⟨z1, by omega, rfl⟩, hn', rfl, rfl, rfl⟩)
  · exact jk_throwSW (jt_378_236 hx) rfl (by decide) (by decide) (by decide) (by decide) (by decide) dX12_type_11 dX12_type_14 dX12_type_15 dX12_type_18 dX12_type_21 (fun n' hn' => ⟨Or.inl ⟨z1, rfl⟩, hn', rfl, rfl, rfl⟩)
end E6
