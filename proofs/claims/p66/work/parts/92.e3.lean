section E3
/-- levels, when corrections are small -/
def md_vb2 (s : md_SS) : Prop := ∀ p, -109999 * md_cnt s.1 ≤ s.2 p ∧ s.2 p ≤ 109999 * md_cnt s.1
theorem md_cor_bd2 {B : Int} {g : Int → Int} {l : Int} (hi : md_inv B g) (hB : B ≤ 100000) (hl : 0 ≤ l ∧ l < 16) : -109999 ≤ md_cor g l ∧ md_cor g l ≤ 109999 := by
  have h1 := md_lev_bd (md_inv_ln hi hl)
  obtain ⟨l1, l2, l3, l4, l5, l6, l7, l8⟩ := md_inv_ln hi hl
  unfold md_cor; omega
theorem md_pass_vb2 {B : Int} {g T : Int → Int} (hi : md_inv B g) (hB : B ≤ 100000) {s : md_SS} (h : md_kb s.1) (hv : md_vb2 s) {l : Int} (hl : 0 ≤ l ∧ l < 16) : md_vb2 (md_pass g T s l) := by
  intro p
  rw [md_pass_cnt hi h hl]
  have hc := md_cor_bd2 hi hB hl
  have ha := hv (g (24 + l))
  have hb := hv (g (40 + l))
  have hp := hv p
  unfold md_pass md_passB
  by_cases hq : T l = 0 ∨ s.1 (g (24 + l)) = s.1 (g (40 + l))
  · rw [if_pos hq, decide_eq_true hq]; show _ * (_ + jB false) ≤ _ ∧ _ ≤ _ * (_ + jB false); rw [jB_f, Int.add_zero]; exact hp
  · rw [if_neg hq, decide_eq_false hq]
    show _ * (_ + jB true) ≤ (if s.1 (g (24 + l)) = 0 then _ else _ : Int → Int) p ∧ (if s.1 (g (24 + l)) = 0 then _ else _ : Int → Int) p ≤ _ * (_ + jB true)
    rw [jB_t]
    split <;> (unfold jk_set; split <;> omega)
theorem md_pl_vb2 {B : Int} {g T : Int → Int} (hi : md_inv B g) (hB : B ≤ 100000) {s : md_SS} (h : md_kb s.1) (hv : md_vb2 s) : ∀ k : Nat, k ≤ 16 → md_vb2 (md_pl g T k s)
  | 0, _ => hv
  | k + 1, hk => md_pass_vb2 hi hB (md_pl_kb h k) (md_pl_vb2 hi hB h hv k (by omega)) ⟨by omega, by omega⟩
theorem md_it_vb2 {B : Int} {g : Int → Int} (hi : md_inv B g) (hB : B ≤ 100000) : ∀ j, md_vb2 (md_it g j)
  | 0 => fun p => by
    have h : 0 ≤ md_cnt (md_it g 0).1 := jk_sum_nn _ (fun p => by show (0 : Int) ≤ (if (0 ≤ p ∧ p < 10) ∧ md_Ro g p = p then 1 else 0); split <;> decide) 10
    show _ ≤ (0 : Int) ∧ (0 : Int) ≤ _
    omega
  | j + 1 => md_pl_vb2 hi hB (md_it_kb g j) (md_it_vb2 hi hB j) _ (by have := hi.2.1; omega)
theorem md_HT_bd2 {B : Int} {g : Int → Int} (hi : md_inv B g) (hB : B ≤ 100000) {p : Int} (hp : 0 ≤ p ∧ p < 10) (hh : md_hi g (md_Ro g) p = true) : -2299979 ≤ md_HT g p ∧ md_HT g p ≤ 2299979 := by
  have h1 := md_hi_t hh
  have h2 := md_dat_bd (r := md_Ro g) hi p
  obtain ⟨q1, q2, q3⟩ := md_inv_pt hi hp
  obtain ⟨r1, r2, r3⟩ := md_inv_pt hi (p := md_dat g (md_Ro g) p) ⟨by omega, by omega⟩
  have hf : ∀ p, -1099990 ≤ (md_fin g).2 p ∧ (md_fin g).2 p ≤ 1099990 := fun p => by
    have h := md_it_vb2 hi hB 11 p
    have h1 := jk_sum_bd2 (f := (md_it g 11).1) (a := 0) (b := 1) 10 (fun i a b => by have := md_it_kb g 11 i ⟨a, by omega⟩; omega)
    unfold md_cnt at h
    unfold md_fin
    omega
  have h3 := hf p
  have h4 := hf (md_dat g (md_Ro g) p)
  unfold md_HT md_ht md_byd
  split <;> omega
theorem ln_why1 {g : Int → Int} {l : Int} (h : cl_has (g 1) l = false) : md_why g l = 1 := by unfold md_why; rw [ln_e0 h]
theorem ln_why2 {g : Int → Int} {l : Int} (h : cl_has (g 1) l = true) (hc : md_clo g (md_T g) l = false) : md_why g l = 2 := by unfold md_why; rw [ln_e1 h, if_pos hc]
theorem ln_why0 {g : Int → Int} {l : Int} (h : cl_has (g 1) l = true) (hc : md_clo g (md_T g) l = true) : md_why g l = 0 := by unfold md_why; rw [ln_e1 h, if_neg (by rw [hc]; decide)]
theorem ln_size {σ : jk_I} {w c : Nat} {g S : Int → Int} (hsq : wa_sq σ w c S (g 1)) (h1 : 0 ≤ g 1) : (c : Int) = jk_sum (fun x => if S x = 0 then 0 else 1) (g 1).toNat := by
  obtain ⟨a1, a2, a3, a4, a5⟩ := hsq
  have e := cm_wsum (n := (g 1).toNat) (Ln := fun i => σ (w + 2) i) (fun _ _ => 1) c S (fun i hi => ⟨⟨(a3 i hi).1.1, by have := (a3 i hi).1.2; omega⟩, by rcases (a3 i hi).2.2 with h | h <;> rw [h] <;> decide⟩) a4 (fun k hk h => a5 k ⟨hk.1, by omega⟩ h)
  rw [cm_sum1] at e
  exact e
theorem ln_wng0 {g : Int → Int} {q : Int} (h : cl_has (g 2) q = true) (hh : md_hi g (md_Ro g) (g (152 + q)) = true) : md_wng g q = 0 := by unfold md_wng md_H; rw [ln_e1 h, if_pos hh]
theorem ln_wng1 {g : Int → Int} {q : Int} (h : cl_has (g 2) q = false) : md_wng g q = 1 := by unfold md_wng; rw [ln_e0 h]
theorem ln_wng2 {g : Int → Int} {q : Int} (h : cl_has (g 2) q = true) (hh : md_hi g (md_Ro g) (g (152 + q)) = false) : md_wng g q = 2 := by unfold md_wng md_H; rw [ln_e1 h, if_neg (by rw [hh]; decide)]
theorem c_X12_forestLength {G : jk_G} {n : Nat} {t : jk_T} {σ : jk_I} {ρ : jk_P} {x : Nat} {g : Int → Int} {B : Int}  (hz : zz_ok G) (hx : zx_ok G) (hln : ln_at t ρ x) (hr : cl_rel σ (x + 2) g) (ha : md_all B g) (hnn : cl_nn σ (x + 2)) (hsi : md_sit g)  : jk_K G yX12_forestLength mX12_forestLength 6 36 [.ref x] n t σ ρ (ln_RQ x (0) (jI (md_q_fl g).2) σ n t ρ) (ln_RX x (0) (ex_1 "") σ n t ρ) := by
  obtain ⟨hx0, ⟨hx1, hx2, hx3, hx4, hx5, hx6, hx7, hx8, hx9, hx10, hx11, hx12⟩, hB4, hSN, hH, hhe, hba, hch, hsc⟩ := id hln
  obtain ⟨hcc, hwa, hsh, hwy, hyc⟩ := id hch
  obtain ⟨-, -, hfo, hfw⟩ := id hwa
  obtain ⟨-, -, -, -, hs, hsf⟩ := id hfo
  have hi := ha.1
  have hw := ha.2.1
  have hxx := ha.2.2.1
  have i0 := hi.1
  have i1 := hi.2.1
  have i2 := hi.2.2.1
  have i3 := hi.2.2.2.1
  obtain ⟨q0, q1, q2, q3⟩ := hr.1
  have hf0 : ln_fr x σ σ := fun _ _ => rfl
  refine jk_entryB (ls := [some (.ref x)]) jm_X12_forestLength.1 rfl rfl rfl ?_
  refine jk_aload_n (q := 1) dX12_forestLength_0 rfl rfl ?_
  refine jk_getA (q := 4) (k := 12) 5 5 rfl (by first | exact hx0 | exact hs.1 | exact hs.2.1 _ _ rfl | exact hfo.1 | exact hfo.2.1 _ _ rfl | exact hwa.1.1 | exact hwa.1.2.1 | exact hwa.1.2.2 | exact hsh.1.1 | exact hsh.1.2.1 | exact hhe.1.1 | exact hba.1.1 | exact hcc.1 | exact hH.1 | exact hsc.1.1 | exact hB4.1 | exact hSN.1 | assumption) (by first | assumption | exact hs.2.2.1 _ _ rfl | exact hfo.2.2.1 _ _ rfl | exact hwa.2.1.2.2.1 | exact hsh.2.1.2.1) rfl rfl jw_380 dX12_forestLength_1 rfl ?_
  refine jk_cV0g (q := 7) (c_X3_find hfo hr hi hw) jm_X3_find jw_865 rfl (by first | exact hx0 | exact hs.1 | exact hs.2.1 _ _ rfl | exact hfo.1 | exact hfo.2.1 _ _ rfl | exact hwa.1.1 | exact hwa.1.2.1 | exact hwa.1.2.2 | exact hsh.1.1 | exact hsh.1.2.1 | exact hhe.1.1 | exact hba.1.1 | exact hcc.1 | exact hH.1 | exact hsc.1.1 | exact hB4.1 | exact hSN.1 | assumption) rfl rfl (Nat.zero_le _) (Nat.zero_le _) rfl dX12_forestLength_4 rfl (fun v' n' t' σ1 ρ' hq => ?_) (fun _ _ _ _ _ h => h.elim)
  obtain ⟨rfl, hn9, ht9, hr9, hp1⟩ := hq
  replace hn9 := hn9.symm; replace ht9 := ht9.symm; replace hr9 := hr9.symm; subst hn9 ht9 hr9
  simp only [Option.toList_some, Option.toList_none, List.cons_append, List.nil_append, Nat.sub_zero]
  have hf1 : ln_fr x σ σ1 := fun a h => (hp1.1 a (by omega) (by omega) (by omega) (by omega)).trans (hf0 a h)
  have hr1 : cl_rel σ1 (x + 2) g := cl_rel_same i2.2 (fun a h1 h2 => hf1 a (Or.inl (by omega))) hr
  have ho1 := hp1.2
  refine jk_aload_n (q := 8) dX12_forestLength_7 rfl rfl ?_
  refine jk_getA (q := 11) (k := 12) 5 5 rfl (by first | exact hx0 | exact hs.1 | exact hs.2.1 _ _ rfl | exact hfo.1 | exact hfo.2.1 _ _ rfl | exact hwa.1.1 | exact hwa.1.2.1 | exact hwa.1.2.2 | exact hsh.1.1 | exact hsh.1.2.1 | exact hhe.1.1 | exact hba.1.1 | exact hcc.1 | exact hH.1 | exact hsc.1.1 | exact hB4.1 | exact hSN.1 | assumption) (by first | assumption | exact hs.2.2.1 _ _ rfl | exact hfo.2.2.1 _ _ rfl | exact hwa.2.1.2.2.1 | exact hsh.2.1.2.1) rfl rfl jw_380 dX12_forestLength_8 rfl ?_
  refine jk_cV0p (q := 14) (c_X3_takenLength hfo hr1 hi ho1) jm_X3_takenLength jw_989 rfl (by first | exact hx0 | exact hs.1 | exact hs.2.1 _ _ rfl | exact hfo.1 | exact hfo.2.1 _ _ rfl | exact hwa.1.1 | exact hwa.1.2.1 | exact hwa.1.2.2 | exact hsh.1.1 | exact hsh.1.2.1 | exact hhe.1.1 | exact hba.1.1 | exact hcc.1 | exact hH.1 | exact hsc.1.1 | exact hB4.1 | exact hSN.1 | assumption) rfl rfl rfl dX12_forestLength_11 rfl ?_
  exact jk_iret rfl dX12_forestLength_14 (by exact ⟨rfl, rfl, rfl, rfl, rfl, hf1⟩)
theorem c_X12_treeCount {G : jk_G} {n : Nat} {t : jk_T} {σ : jk_I} {ρ : jk_P} {x : Nat} {g : Int → Int} {B : Int}  (hz : zz_ok G) (hx : zx_ok G) (hln : ln_at t ρ x) (hr : cl_rel σ (x + 2) g) (ha : md_all B g) (hnn : cl_nn σ (x + 2)) (hsi : md_sit g)  : jk_K G yX12_treeCount mX12_treeCount 6 36 [.ref x] n t σ ρ (ln_RQ x (0) (jI (md_q_tc g).2) σ n t ρ) (ln_RX x (0) (ex_1 "") σ n t ρ) := by
  obtain ⟨hx0, ⟨hx1, hx2, hx3, hx4, hx5, hx6, hx7, hx8, hx9, hx10, hx11, hx12⟩, hB4, hSN, hH, hhe, hba, hch, hsc⟩ := id hln
  obtain ⟨hcc, hwa, hsh, hwy, hyc⟩ := id hch
  obtain ⟨-, -, hfo, hfw⟩ := id hwa
  obtain ⟨-, -, -, -, hs, hsf⟩ := id hfo
  have hi := ha.1
  have hw := ha.2.1
  have hxx := ha.2.2.1
  have i0 := hi.1
  have i1 := hi.2.1
  have i2 := hi.2.2.1
  have i3 := hi.2.2.2.1
  obtain ⟨q0, q1, q2, q3⟩ := hr.1
  have hf0 : ln_fr x σ σ := fun _ _ => rfl
  refine jk_entryB (ls := [some (.ref x)]) jm_X12_treeCount.1 rfl rfl rfl ?_
  refine jk_aload_n (q := 1) dX12_treeCount_0 rfl rfl ?_
  refine jk_getA (q := 4) (k := 12) 5 5 rfl (by first | exact hx0 | exact hs.1 | exact hs.2.1 _ _ rfl | exact hfo.1 | exact hfo.2.1 _ _ rfl | exact hwa.1.1 | exact hwa.1.2.1 | exact hwa.1.2.2 | exact hsh.1.1 | exact hsh.1.2.1 | exact hhe.1.1 | exact hba.1.1 | exact hcc.1 | exact hH.1 | exact hsc.1.1 | exact hB4.1 | exact hSN.1 | assumption) (by first | assumption | exact hs.2.2.1 _ _ rfl | exact hfo.2.2.1 _ _ rfl | exact hwa.2.1.2.2.1 | exact hsh.2.1.2.1) rfl rfl jw_380 dX12_treeCount_1 rfl ?_
  refine jk_cV0g (q := 7) (c_X3_find hfo hr hi hw) jm_X3_find jw_865 rfl (by first | exact hx0 | exact hs.1 | exact hs.2.1 _ _ rfl | exact hfo.1 | exact hfo.2.1 _ _ rfl | exact hwa.1.1 | exact hwa.1.2.1 | exact hwa.1.2.2 | exact hsh.1.1 | exact hsh.1.2.1 | exact hhe.1.1 | exact hba.1.1 | exact hcc.1 | exact hH.1 | exact hsc.1.1 | exact hB4.1 | exact hSN.1 | assumption) rfl rfl (Nat.zero_le _) (Nat.zero_le _) rfl dX12_treeCount_4 rfl (fun v' n' t' σ1 ρ' hq => ?_) (fun _ _ _ _ _ h => h.elim)
  obtain ⟨rfl, hn9, ht9, hr9, hp1⟩ := hq
  replace hn9 := hn9.symm; replace ht9 := ht9.symm; replace hr9 := hr9.symm; subst hn9 ht9 hr9
  simp only [Option.toList_some, Option.toList_none, List.cons_append, List.nil_append, Nat.sub_zero]
  have hf1 : ln_fr x σ σ1 := fun a h => (hp1.1 a (by omega) (by omega) (by omega) (by omega)).trans (hf0 a h)
  have hr1 : cl_rel σ1 (x + 2) g := cl_rel_same i2.2 (fun a h1 h2 => hf1 a (Or.inl (by omega))) hr
  have ho1 := hp1.2
  refine jk_aload_n (q := 8) dX12_treeCount_7 rfl rfl ?_
  refine jk_getA (q := 11) (k := 12) 5 5 rfl (by first | exact hx0 | exact hs.1 | exact hs.2.1 _ _ rfl | exact hfo.1 | exact hfo.2.1 _ _ rfl | exact hwa.1.1 | exact hwa.1.2.1 | exact hwa.1.2.2 | exact hsh.1.1 | exact hsh.1.2.1 | exact hhe.1.1 | exact hba.1.1 | exact hcc.1 | exact hH.1 | exact hsc.1.1 | exact hB4.1 | exact hSN.1 | assumption) (by first | assumption | exact hs.2.2.1 _ _ rfl | exact hfo.2.2.1 _ _ rfl | exact hwa.2.1.2.2.1 | exact hsh.2.1.2.1) rfl rfl jw_380 dX12_treeCount_8 rfl ?_
  refine jk_cV0p (q := 14) (c_X3_trees hfo hr1 hi ho1) jm_X3_trees jw_1013 rfl (by first | exact hx0 | exact hs.1 | exact hs.2.1 _ _ rfl | exact hfo.1 | exact hfo.2.1 _ _ rfl | exact hwa.1.1 | exact hwa.1.2.1 | exact hwa.1.2.2 | exact hsh.1.1 | exact hsh.1.2.1 | exact hhe.1.1 | exact hba.1.1 | exact hcc.1 | exact hH.1 | exact hsc.1.1 | exact hB4.1 | exact hSN.1 | assumption) rfl rfl rfl dX12_treeCount_11 rfl ?_
  exact jk_iret rfl dX12_treeCount_14 (by exact ⟨rfl, rfl, rfl, rfl, rfl, hf1⟩)
theorem c_X12_loopCount {G : jk_G} {n : Nat} {t : jk_T} {σ : jk_I} {ρ : jk_P} {x : Nat} {g : Int → Int} {B : Int}  (hz : zz_ok G) (hx : zx_ok G) (hln : ln_at t ρ x) (hr : cl_rel σ (x + 2) g) (ha : md_all B g) (hnn : cl_nn σ (x + 2)) (hsi : md_sit g)  : jk_K G yX12_loopCount mX12_loopCount 6 36 [.ref x] n t σ ρ (ln_RQ x (0) (jI (md_q_lo g).2) σ n t ρ) (ln_RX x (0) (ex_1 "") σ n t ρ) := by
  obtain ⟨hx0, ⟨hx1, hx2, hx3, hx4, hx5, hx6, hx7, hx8, hx9, hx10, hx11, hx12⟩, hB4, hSN, hH, hhe, hba, hch, hsc⟩ := id hln
  obtain ⟨hcc, hwa, hsh, hwy, hyc⟩ := id hch
  obtain ⟨-, -, hfo, hfw⟩ := id hwa
  obtain ⟨-, -, -, -, hs, hsf⟩ := id hfo
  have hi := ha.1
  have hw := ha.2.1
  have hxx := ha.2.2.1
  have i0 := hi.1
  have i1 := hi.2.1
  have i2 := hi.2.2.1
  have i3 := hi.2.2.2.1
  obtain ⟨q0, q1, q2, q3⟩ := hr.1
  have hf0 : ln_fr x σ σ := fun _ _ => rfl
  refine jk_entryB (ls := [some (.ref x)]) jm_X12_loopCount.1 rfl rfl rfl ?_
  refine jk_aload_n (q := 1) dX12_loopCount_0 rfl rfl ?_
  refine jk_getA (q := 4) (k := 12) 5 5 rfl (by first | exact hx0 | exact hs.1 | exact hs.2.1 _ _ rfl | exact hfo.1 | exact hfo.2.1 _ _ rfl | exact hwa.1.1 | exact hwa.1.2.1 | exact hwa.1.2.2 | exact hsh.1.1 | exact hsh.1.2.1 | exact hhe.1.1 | exact hba.1.1 | exact hcc.1 | exact hH.1 | exact hsc.1.1 | exact hB4.1 | exact hSN.1 | assumption) (by first | assumption | exact hs.2.2.1 _ _ rfl | exact hfo.2.2.1 _ _ rfl | exact hwa.2.1.2.2.1 | exact hsh.2.1.2.1) rfl rfl jw_380 dX12_loopCount_1 rfl ?_
  refine jk_cV0g (q := 7) (c_X3_find hfo hr hi hw) jm_X3_find jw_865 rfl (by first | exact hx0 | exact hs.1 | exact hs.2.1 _ _ rfl | exact hfo.1 | exact hfo.2.1 _ _ rfl | exact hwa.1.1 | exact hwa.1.2.1 | exact hwa.1.2.2 | exact hsh.1.1 | exact hsh.1.2.1 | exact hhe.1.1 | exact hba.1.1 | exact hcc.1 | exact hH.1 | exact hsc.1.1 | exact hB4.1 | exact hSN.1 | assumption) rfl rfl (Nat.zero_le _) (Nat.zero_le _) rfl dX12_loopCount_4 rfl (fun v' n' t' σ1 ρ' hq => ?_) (fun _ _ _ _ _ h => h.elim)
  obtain ⟨rfl, hn9, ht9, hr9, hp1⟩ := hq
  replace hn9 := hn9.symm; replace ht9 := ht9.symm; replace hr9 := hr9.symm; subst hn9 ht9 hr9
  simp only [Option.toList_some, Option.toList_none, List.cons_append, List.nil_append, Nat.sub_zero]
  have hf1 : ln_fr x σ σ1 := fun a h => (hp1.1 a (by omega) (by omega) (by omega) (by omega)).trans (hf0 a h)
  have hr1 : cl_rel σ1 (x + 2) g := cl_rel_same i2.2 (fun a h1 h2 => hf1 a (Or.inl (by omega))) hr
  have ho1 := hp1.2
  refine jk_aload_n (q := 8) dX12_loopCount_7 rfl rfl ?_
  refine jk_getA (q := 11) (k := 12) 5 5 rfl (by first | exact hx0 | exact hs.1 | exact hs.2.1 _ _ rfl | exact hfo.1 | exact hfo.2.1 _ _ rfl | exact hwa.1.1 | exact hwa.1.2.1 | exact hwa.1.2.2 | exact hsh.1.1 | exact hsh.1.2.1 | exact hhe.1.1 | exact hba.1.1 | exact hcc.1 | exact hH.1 | exact hsc.1.1 | exact hB4.1 | exact hSN.1 | assumption) (by first | assumption | exact hs.2.2.1 _ _ rfl | exact hfo.2.2.1 _ _ rfl | exact hwa.2.1.2.2.1 | exact hsh.2.1.2.1) rfl rfl jw_380 dX12_loopCount_8 rfl ?_
  refine jk_cV0p (q := 14) (c_X3_loops hfo hr1 hi ho1) jm_X3_loops jw_1021 rfl (by first | exact hx0 | exact hs.1 | exact hs.2.1 _ _ rfl | exact hfo.1 | exact hfo.2.1 _ _ rfl | exact hwa.1.1 | exact hwa.1.2.1 | exact hwa.1.2.2 | exact hsh.1.1 | exact hsh.1.2.1 | exact hhe.1.1 | exact hba.1.1 | exact hcc.1 | exact hH.1 | exact hsc.1.1 | exact hB4.1 | exact hSN.1 | assumption) rfl rfl rfl dX12_loopCount_11 rfl ?_
  exact jk_iret rfl dX12_loopCount_14 (by exact ⟨rfl, rfl, rfl, rfl, rfl, hf1⟩)
theorem c_X12_forestLengthByGrowing {G : jk_G} {n : Nat} {t : jk_T} {σ : jk_I} {ρ : jk_P} {x : Nat} {g : Int → Int} {B : Int}  (hz : zz_ok G) (hx : zx_ok G) (hln : ln_at t ρ x) (hr : cl_rel σ (x + 2) g) (ha : md_all B g) (hnn : cl_nn σ (x + 2)) (hsi : md_sit g)  : jk_K G yX12_forestLengthByGrowing mX12_forestLengthByGrowing 6 36 [.ref x] n t σ ρ (ln_RQ x (0) (jI (md_q_fl g).2) σ n t ρ) (ln_RX x (0) (ex_1 "") σ n t ρ) := by
  obtain ⟨hx0, ⟨hx1, hx2, hx3, hx4, hx5, hx6, hx7, hx8, hx9, hx10, hx11, hx12⟩, hB4, hSN, hH, hhe, hba, hch, hsc⟩ := id hln
  obtain ⟨hcc, hwa, hsh, hwy, hyc⟩ := id hch
  obtain ⟨-, -, hfo, hfw⟩ := id hwa
  obtain ⟨-, -, -, -, hs, hsf⟩ := id hfo
  have hi := ha.1
  have hw := ha.2.1
  have hxx := ha.2.2.1
  have i0 := hi.1
  have i1 := hi.2.1
  have i2 := hi.2.2.1
  have i3 := hi.2.2.2.1
  obtain ⟨q0, q1, q2, q3⟩ := hr.1
  have hf0 : ln_fr x σ σ := fun _ _ => rfl
  refine jk_entryB (ls := [some (.ref x)]) jm_X12_forestLengthByGrowing.1 rfl rfl rfl ?_
  refine jk_aload_n (q := 1) dX12_forestLengthByGrowing_0 rfl rfl ?_
  refine jk_getA (q := 4) (k := 12) 5 5 rfl (by first | exact hx0 | exact hs.1 | exact hs.2.1 _ _ rfl | exact hfo.1 | exact hfo.2.1 _ _ rfl | exact hwa.1.1 | exact hwa.1.2.1 | exact hwa.1.2.2 | exact hsh.1.1 | exact hsh.1.2.1 | exact hhe.1.1 | exact hba.1.1 | exact hcc.1 | exact hH.1 | exact hsc.1.1 | exact hB4.1 | exact hSN.1 | assumption) (by first | assumption | exact hs.2.2.1 _ _ rfl | exact hfo.2.2.1 _ _ rfl | exact hwa.2.1.2.2.1 | exact hsh.2.1.2.1) rfl rfl jw_380 dX12_forestLengthByGrowing_1 rfl ?_
  refine jk_cV0g (q := 7) (c_X3_find hfo hr hi hw) jm_X3_find jw_865 rfl (by first | exact hx0 | exact hs.1 | exact hs.2.1 _ _ rfl | exact hfo.1 | exact hfo.2.1 _ _ rfl | exact hwa.1.1 | exact hwa.1.2.1 | exact hwa.1.2.2 | exact hsh.1.1 | exact hsh.1.2.1 | exact hhe.1.1 | exact hba.1.1 | exact hcc.1 | exact hH.1 | exact hsc.1.1 | exact hB4.1 | exact hSN.1 | assumption) rfl rfl (Nat.zero_le _) (Nat.zero_le _) rfl dX12_forestLengthByGrowing_4 rfl (fun v' n' t' σ1 ρ' hq => ?_) (fun _ _ _ _ _ h => h.elim)
  obtain ⟨rfl, hn9, ht9, hr9, hp1⟩ := hq
  replace hn9 := hn9.symm; replace ht9 := ht9.symm; replace hr9 := hr9.symm; subst hn9 ht9 hr9
  simp only [Option.toList_some, Option.toList_none, List.cons_append, List.nil_append, Nat.sub_zero]
  have hf1 : ln_fr x σ σ1 := fun a h => (hp1.1 a (by omega) (by omega) (by omega) (by omega)).trans (hf0 a h)
  have hr1 : cl_rel σ1 (x + 2) g := cl_rel_same i2.2 (fun a h1 h2 => hf1 a (Or.inl (by omega))) hr
  have ho1 := hp1.2
  refine jk_aload_n (q := 8) dX12_forestLengthByGrowing_7 rfl rfl ?_
  refine jk_getA (q := 11) (k := 12) 5 5 rfl (by first | exact hx0 | exact hs.1 | exact hs.2.1 _ _ rfl | exact hfo.1 | exact hfo.2.1 _ _ rfl | exact hwa.1.1 | exact hwa.1.2.1 | exact hwa.1.2.2 | exact hsh.1.1 | exact hsh.1.2.1 | exact hhe.1.1 | exact hba.1.1 | exact hcc.1 | exact hH.1 | exact hsc.1.1 | exact hB4.1 | exact hSN.1 | assumption) (by first | assumption | exact hs.2.2.1 _ _ rfl | exact hfo.2.2.1 _ _ rfl | exact hwa.2.1.2.2.1 | exact hsh.2.1.2.1) rfl rfl jw_380 dX12_forestLengthByGrowing_8 rfl ?_
  refine jk_cV0g (q := 14) (c_X3_grownLength hfo hr1 hi hw ho1) jm_X3_grownLength jw_997 rfl (by first | exact hx0 | exact hs.1 | exact hs.2.1 _ _ rfl | exact hfo.1 | exact hfo.2.1 _ _ rfl | exact hwa.1.1 | exact hwa.1.2.1 | exact hwa.1.2.2 | exact hsh.1.1 | exact hsh.1.2.1 | exact hhe.1.1 | exact hba.1.1 | exact hcc.1 | exact hH.1 | exact hsc.1.1 | exact hB4.1 | exact hSN.1 | assumption) rfl rfl (Nat.zero_le _) (Nat.zero_le _) rfl dX12_forestLengthByGrowing_11 rfl (fun v' n' t' σ2 ρ' hq => ?_) (fun _ _ _ _ _ h => h.elim)
  obtain ⟨rfl, hn9, ht9, hr9, K1, hk1⟩ := hq
  replace hn9 := hn9.symm; replace ht9 := ht9.symm; replace hr9 := hr9.symm; subst hn9 ht9 hr9
  simp only [Option.toList_some, Option.toList_none, List.cons_append, List.nil_append, Nat.sub_zero]
  exact jk_iret rfl dX12_forestLengthByGrowing_14 (by exact ⟨rfl, rfl, rfl, rfl, rfl, fun a h => by rw [hk1, jk_row_ne _ _ (by omega)]; exact hf1 a h⟩)
theorem c_X12_loopAt {G : jk_G} {n : Nat} {t : jk_T} {σ : jk_I} {ρ : jk_P} {x : Nat} {g : Int → Int} {B : Int} {p : Int} (hz : zz_ok G) (hx : zx_ok G) (hln : ln_at t ρ x) (hr : cl_rel σ (x + 2) g) (ha : md_all B g) (hnn : cl_nn σ (x + 2)) (hsi : md_sit g) (hp : jk_in p) : jk_K G yX12_loopAt mX12_loopAt 6 36 [.ref x, jI p] n t σ ρ (ln_RQ x ((md_q_la g p).1) (jI (md_q_la g p).2) σ n t ρ) (ln_RX x ((md_q_la g p).1) (ex_1 "java/util/NoSuchElementException") σ n t ρ) := by
  obtain ⟨hx0, ⟨hx1, hx2, hx3, hx4, hx5, hx6, hx7, hx8, hx9, hx10, hx11, hx12⟩, hB4, hSN, hH, hhe, hba, hch, hsc⟩ := id hln
  obtain ⟨hcc, hwa, hsh, hwy, hyc⟩ := id hch
  obtain ⟨-, -, hfo, hfw⟩ := id hwa
  obtain ⟨-, -, -, -, hs, hsf⟩ := id hfo
  have hi := ha.1
  have hw := ha.2.1
  have hxx := ha.2.2.1
  have i0 := hi.1
  have i1 := hi.2.1
  have i2 := hi.2.2.1
  have i3 := hi.2.2.2.1
  obtain ⟨q0, q1, q2, q3⟩ := hr.1
  have hf0 : ln_fr x σ σ := fun _ _ => rfl
  refine jk_entryB (ls := [some (.ref x), some (jI p), none]) jm_X12_loopAt.1 rfl rfl rfl ?_
  refine jk_aload_n (q := 1) dX12_loopAt_0 rfl rfl ?_
  refine jk_getA (q := 4) (k := 12) 5 5 rfl (by first | exact hx0 | exact hs.1 | exact hs.2.1 _ _ rfl | exact hfo.1 | exact hfo.2.1 _ _ rfl | exact hwa.1.1 | exact hwa.1.2.1 | exact hwa.1.2.2 | exact hsh.1.1 | exact hsh.1.2.1 | exact hhe.1.1 | exact hba.1.1 | exact hcc.1 | exact hH.1 | exact hsc.1.1 | exact hB4.1 | exact hSN.1 | assumption) (by first | assumption | exact hs.2.2.1 _ _ rfl | exact hfo.2.2.1 _ _ rfl | exact hwa.2.1.2.2.1 | exact hsh.2.1.2.1) rfl rfl jw_380 dX12_loopAt_1 rfl ?_
  refine jk_cV0g (q := 7) (c_X3_find hfo hr hi hw) jm_X3_find jw_865 rfl (by first | exact hx0 | exact hs.1 | exact hs.2.1 _ _ rfl | exact hfo.1 | exact hfo.2.1 _ _ rfl | exact hwa.1.1 | exact hwa.1.2.1 | exact hwa.1.2.2 | exact hsh.1.1 | exact hsh.1.2.1 | exact hhe.1.1 | exact hba.1.1 | exact hcc.1 | exact hH.1 | exact hsc.1.1 | exact hB4.1 | exact hSN.1 | assumption) rfl rfl (Nat.zero_le _) (Nat.zero_le _) rfl dX12_loopAt_4 rfl (fun v' n' t' σ1 ρ' hq => ?_) (fun _ _ _ _ _ h => h.elim)
  obtain ⟨rfl, hn9, ht9, hr9, hp1⟩ := hq
  replace hn9 := hn9.symm; replace ht9 := ht9.symm; replace hr9 := hr9.symm; subst hn9 ht9 hr9
  simp only [Option.toList_some, Option.toList_none, List.cons_append, List.nil_append, Nat.sub_zero]
  have hf1 : ln_fr x σ σ1 := fun a h => (hp1.1 a (by omega) (by omega) (by omega) (by omega)).trans (hf0 a h)
  have hr1 : cl_rel σ1 (x + 2) g := cl_rel_same i2.2 (fun a h1 h2 => hf1 a (Or.inl (by omega))) hr
  have ho1 := hp1.2
  refine jk_aload_n (q := 8) dX12_loopAt_7 rfl rfl ?_
  refine jk_getA (q := 11) (k := 12) 5 5 rfl (by first | exact hx0 | exact hs.1 | exact hs.2.1 _ _ rfl | exact hfo.1 | exact hfo.2.1 _ _ rfl | exact hwa.1.1 | exact hwa.1.2.1 | exact hwa.1.2.2 | exact hsh.1.1 | exact hsh.1.2.1 | exact hhe.1.1 | exact hba.1.1 | exact hcc.1 | exact hH.1 | exact hsc.1.1 | exact hB4.1 | exact hSN.1 | assumption) (by first | assumption | exact hs.2.2.1 _ _ rfl | exact hfo.2.2.1 _ _ rfl | exact hwa.2.1.2.2.1 | exact hsh.2.1.2.1) rfl rfl jw_380 dX12_loopAt_8 rfl ?_
  refine jk_iload_n (q := 12) dX12_loopAt_11 rfl rfl ?_
  refine jk_cV1p (q := 15) (c_X3_closingLineAt hfo hr1 hi ho1 hp) jm_X3_closingLineAt jw_1030 rfl (by first | exact hx0 | exact hs.1 | exact hs.2.1 _ _ rfl | exact hfo.1 | exact hfo.2.1 _ _ rfl | exact hwa.1.1 | exact hwa.1.2.1 | exact hwa.1.2.2 | exact hsh.1.1 | exact hsh.1.2.1 | exact hhe.1.1 | exact hba.1.1 | exact hcc.1 | exact hH.1 | exact hsc.1.1 | exact hB4.1 | exact hSN.1 | assumption) rfl rfl rfl dX12_loopAt_12 rfl ?_
  have hfb := jk_fnd_bd (md_laP g p) (g 1).toNat
  refine jk_istore2 (q := 16) dX12_loopAt_15 rfl rfl rfl ?_
  refine jk_iload_n (q := 17) dX12_loopAt_16 rfl rfl ?_
  refine jk_iconst (q := 18) dX12_loopAt_17 rfl ?_
  refine jk_icmp_ne (q := 32) (q2 := 21) dX12_loopAt_18 rfl rfl (by first | assumption | decide | omega | exact jB_01 _ | exact jB_in _ | exact ⟨by omega, by omega⟩) (by first | assumption | decide | omega | exact jB_01 _ | exact jB_in _ | exact ⟨by omega, by omega⟩) (fun z1 => ?_) (fun z1 => ?_)
  · refine jk_iload_n (q := 33) dX12_loopAt_32 rfl rfl ?_
    exact jk_iret rfl dX12_loopAt_33 (by exact ln_rqI hf1 (by unfold md_q_la; rw [if_neg (by omega)]))
  · exact jk_throwXW (jt_262_173 hx) rfl (by decide) (by decide) (by decide) (by decide) (by decide) dX12_loopAt_21 dX12_loopAt_24 dX12_loopAt_25 dX12_loopAt_28 dX12_loopAt_31 (fun n' hn' => ln_rx hn' hf1 (by unfold md_q_la; rw [if_pos (by omega)]) (by decide) rfl)
theorem c_X12_loopSize {G : jk_G} {n : Nat} {t : jk_T} {σ : jk_I} {ρ : jk_P} {x : Nat} {g : Int → Int} {B : Int} {p : Int} (hz : zz_ok G) (hx : zx_ok G) (hln : ln_at t ρ x) (hr : cl_rel σ (x + 2) g) (ha : md_all B g) (hnn : cl_nn σ (x + 2)) (hsi : md_sit g) (hp : jk_in p) : jk_K G yX12_loopSize mX12_loopSize 6 36 [.ref x, jI p] n t σ ρ (ln_RQ x ((md_q_ls g p).1) (jI (md_q_ls g p).2) σ n t ρ) (ln_RX x ((md_q_ls g p).1) (ex_2 "java/lang/IndexOutOfBoundsException" "java/util/NoSuchElementException") σ n t ρ) := by
  obtain ⟨hx0, ⟨hx1, hx2, hx3, hx4, hx5, hx6, hx7, hx8, hx9, hx10, hx11, hx12⟩, hB4, hSN, hH, hhe, hba, hch, hsc⟩ := id hln
  obtain ⟨hcc, hwa, hsh, hwy, hyc⟩ := id hch
  obtain ⟨-, -, hfo, hfw⟩ := id hwa
  obtain ⟨-, -, -, -, hs, hsf⟩ := id hfo
  have hi := ha.1
  have hw := ha.2.1
  have hxx := ha.2.2.1
  have i0 := hi.1
  have i1 := hi.2.1
  have i2 := hi.2.2.1
  have i3 := hi.2.2.2.1
  obtain ⟨q0, q1, q2, q3⟩ := hr.1
  have hf0 : ln_fr x σ σ := fun _ _ => rfl
  refine jk_entryB (ls := [some (.ref x), some (jI p)]) jm_X12_loopSize.1 rfl rfl rfl ?_
  refine jk_aload_n (q := 1) dX12_loopSize_0 rfl rfl ?_
  refine jk_iload_n (q := 2) dX12_loopSize_1 rfl rfl ?_
  refine jk_cV1g (q := 5) (c_X12_requireLine hz hx hln hr ha hnn hsi hp) jm_X12_requireLine jw_944 rfl (by first | exact hx0 | exact hs.1 | exact hs.2.1 _ _ rfl | exact hfo.1 | exact hfo.2.1 _ _ rfl | exact hwa.1.1 | exact hwa.1.2.1 | exact hwa.1.2.2 | exact hsh.1.1 | exact hsh.1.2.1 | exact hhe.1.1 | exact hba.1.1 | exact hcc.1 | exact hH.1 | exact hsc.1.1 | exact hB4.1 | exact hSN.1 | assumption) rfl rfl (by decide) (by decide) rfl dX12_loopSize_2 rfl (fun v' n' t' σ8 ρ' hq => ?_) (fun E n' t' σ' ρ' hx9 => by
            obtain ⟨rfl, hn9, rfl, rfl, zr, rfl⟩ := hx9
            exact ln_rx (c := 1) hn9 hf0 (by unfold md_q_ls; rw [ln_why1 zr]; rfl) (by decide) rfl)
  obtain ⟨rfl, hn9, ht9, hr9, zr, hss⟩ := hq
  replace hn9 := hn9.symm; replace ht9 := ht9.symm; replace hr9 := hr9.symm; subst hn9 ht9 hr9
  simp only [Option.toList_some, Option.toList_none, List.cons_append, List.nil_append, Nat.sub_zero]
  replace hss := hss.symm
  subst hss
  refine jk_aload_n (q := 6) dX12_loopSize_5 rfl rfl ?_
  refine jk_iload_n (q := 7) dX12_loopSize_6 rfl rfl ?_
  refine jk_cV1g (q := 10) (c_X12_traceLoop (l := p) hz hx hln hr ha hnn hsi (cl_hasT zr)) jm_X12_traceLoop jw_1039 rfl (by first | exact hx0 | exact hs.1 | exact hs.2.1 _ _ rfl | exact hfo.1 | exact hfo.2.1 _ _ rfl | exact hwa.1.1 | exact hwa.1.2.1 | exact hwa.1.2.2 | exact hsh.1.1 | exact hsh.1.2.1 | exact hhe.1.1 | exact hba.1.1 | exact hcc.1 | exact hH.1 | exact hsc.1.1 | exact hB4.1 | exact hSN.1 | assumption) rfl rfl (by decide) (by decide) rfl dX12_loopSize_7 rfl (fun v' n' t' σ1 ρ' hq => ?_) (fun E n' t' σ' ρ' hx9 => by
            obtain ⟨rfl, hn9, rfl, rfl, zc, hf9⟩ := hx9
            exact ln_rx (c := 2) hn9 hf9 (by unfold md_q_ls; rw [ln_why2 zr zc]; rfl) (by decide) rfl)
  obtain ⟨rfl, hn9, ht9, hr9, zc, hf1, ho1, c9, hsq⟩ := hq
  replace hn9 := hn9.symm; replace ht9 := ht9.symm; replace hr9 := hr9.symm; subst hn9 ht9 hr9
  simp only [Option.toList_some, Option.toList_none, List.cons_append, List.nil_append, Nat.sub_zero]
  have hr1 : cl_rel σ1 (x + 2) g := cl_rel_same i2.2 (fun a h1 h2 => hf1 a (Or.inl (by omega))) hr
  have heb := md_err_bd hi (S := md_sgn g (md_T g) p) (fun k _ => md_sgn_sb g (md_T g) p k)
  have hlb := md_len_bd (S := md_sgn g (md_T g) p) hi
  refine jk_aload_n (q := 11) dX12_loopSize_10 rfl rfl ?_
  refine jk_getA (q := 14) (k := 12) 6 6 rfl (by first | exact hx0 | exact hs.1 | exact hs.2.1 _ _ rfl | exact hfo.1 | exact hfo.2.1 _ _ rfl | exact hwa.1.1 | exact hwa.1.2.1 | exact hwa.1.2.2 | exact hsh.1.1 | exact hsh.1.2.1 | exact hhe.1.1 | exact hba.1.1 | exact hcc.1 | exact hH.1 | exact hsc.1.1 | exact hB4.1 | exact hSN.1 | assumption) (by first | assumption | exact hs.2.2.1 _ _ rfl | exact hfo.2.2.1 _ _ rfl | exact hwa.2.1.2.2.1 | exact hsh.2.1.2.1) rfl rfl jw_381 dX12_loopSize_11 rfl ?_
  refine jk_getIR (q := 17) (k := 11) 4 4 rfl (by first | exact hx0 | exact hs.1 | exact hs.2.1 _ _ rfl | exact hfo.1 | exact hfo.2.1 _ _ rfl | exact hwa.1.1 | exact hwa.1.2.1 | exact hwa.1.2.2 | exact hsh.1.1 | exact hsh.1.2.1 | exact hhe.1.1 | exact hba.1.1 | exact hcc.1 | exact hH.1 | exact hsc.1.1 | exact hB4.1 | exact hSN.1 | assumption) (by first | exact jk_row_same _ _ _ | ((repeat rewrite [jk_row_ne _ _ (by omega)]); first | exact jk_row_same _ _ _ | rfl)) rfl rfl jw_226 dX12_loopSize_14 rfl ?_
  rw [hsq.1, ln_size hsq i1.1]
  exact jk_iret rfl dX12_loopSize_17 (by exact ln_rqI hf1 (by unfold md_q_ls; rw [ln_why0 zr zc]; exact if_neg (by decide)))
theorem c_X12_loopLength {G : jk_G} {n : Nat} {t : jk_T} {σ : jk_I} {ρ : jk_P} {x : Nat} {g : Int → Int} {B : Int} {p : Int} (hz : zz_ok G) (hx : zx_ok G) (hln : ln_at t ρ x) (hr : cl_rel σ (x + 2) g) (ha : md_all B g) (hnn : cl_nn σ (x + 2)) (hsi : md_sit g) (hp : jk_in p) : jk_K G yX12_loopLength mX12_loopLength 6 36 [.ref x, jI p] n t σ ρ (ln_RQ x ((md_q_ll g p).1) (jI (md_q_ll g p).2) σ n t ρ) (ln_RX x ((md_q_ll g p).1) (ex_2 "java/lang/IndexOutOfBoundsException" "java/util/NoSuchElementException") σ n t ρ) := by
  obtain ⟨hx0, ⟨hx1, hx2, hx3, hx4, hx5, hx6, hx7, hx8, hx9, hx10, hx11, hx12⟩, hB4, hSN, hH, hhe, hba, hch, hsc⟩ := id hln
  obtain ⟨hcc, hwa, hsh, hwy, hyc⟩ := id hch
  obtain ⟨-, -, hfo, hfw⟩ := id hwa
  obtain ⟨-, -, -, -, hs, hsf⟩ := id hfo
  have hi := ha.1
  have hw := ha.2.1
  have hxx := ha.2.2.1
  have i0 := hi.1
  have i1 := hi.2.1
  have i2 := hi.2.2.1
  have i3 := hi.2.2.2.1
  obtain ⟨q0, q1, q2, q3⟩ := hr.1
  have hf0 : ln_fr x σ σ := fun _ _ => rfl
  refine jk_entryB (ls := [some (.ref x), some (jI p)]) jm_X12_loopLength.1 rfl rfl rfl ?_
  refine jk_aload_n (q := 1) dX12_loopLength_0 rfl rfl ?_
  refine jk_iload_n (q := 2) dX12_loopLength_1 rfl rfl ?_
  refine jk_cV1g (q := 5) (c_X12_requireLine hz hx hln hr ha hnn hsi hp) jm_X12_requireLine jw_944 rfl (by first | exact hx0 | exact hs.1 | exact hs.2.1 _ _ rfl | exact hfo.1 | exact hfo.2.1 _ _ rfl | exact hwa.1.1 | exact hwa.1.2.1 | exact hwa.1.2.2 | exact hsh.1.1 | exact hsh.1.2.1 | exact hhe.1.1 | exact hba.1.1 | exact hcc.1 | exact hH.1 | exact hsc.1.1 | exact hB4.1 | exact hSN.1 | assumption) rfl rfl (by decide) (by decide) rfl dX12_loopLength_2 rfl (fun v' n' t' σ8 ρ' hq => ?_) (fun E n' t' σ' ρ' hx9 => by
            obtain ⟨rfl, hn9, rfl, rfl, zr, rfl⟩ := hx9
            exact ln_rx (c := 1) hn9 hf0 (by unfold md_q_ll; rw [ln_why1 zr]; rfl) (by decide) rfl)
  obtain ⟨rfl, hn9, ht9, hr9, zr, hss⟩ := hq
  replace hn9 := hn9.symm; replace ht9 := ht9.symm; replace hr9 := hr9.symm; subst hn9 ht9 hr9
  simp only [Option.toList_some, Option.toList_none, List.cons_append, List.nil_append, Nat.sub_zero]
  replace hss := hss.symm
  subst hss
  refine jk_aload_n (q := 6) dX12_loopLength_5 rfl rfl ?_
  refine jk_iload_n (q := 7) dX12_loopLength_6 rfl rfl ?_
  refine jk_cV1g (q := 10) (c_X12_traceLoop (l := p) hz hx hln hr ha hnn hsi (cl_hasT zr)) jm_X12_traceLoop jw_1039 rfl (by first | exact hx0 | exact hs.1 | exact hs.2.1 _ _ rfl | exact hfo.1 | exact hfo.2.1 _ _ rfl | exact hwa.1.1 | exact hwa.1.2.1 | exact hwa.1.2.2 | exact hsh.1.1 | exact hsh.1.2.1 | exact hhe.1.1 | exact hba.1.1 | exact hcc.1 | exact hH.1 | exact hsc.1.1 | exact hB4.1 | exact hSN.1 | assumption) rfl rfl (by decide) (by decide) rfl dX12_loopLength_7 rfl (fun v' n' t' σ1 ρ' hq => ?_) (fun E n' t' σ' ρ' hx9 => by
            obtain ⟨rfl, hn9, rfl, rfl, zc, hf9⟩ := hx9
            exact ln_rx (c := 2) hn9 hf9 (by unfold md_q_ll; rw [ln_why2 zr zc]; rfl) (by decide) rfl)
  obtain ⟨rfl, hn9, ht9, hr9, zc, hf1, ho1, c9, hsq⟩ := hq
  replace hn9 := hn9.symm; replace ht9 := ht9.symm; replace hr9 := hr9.symm; subst hn9 ht9 hr9
  simp only [Option.toList_some, Option.toList_none, List.cons_append, List.nil_append, Nat.sub_zero]
  have hr1 : cl_rel σ1 (x + 2) g := cl_rel_same i2.2 (fun a h1 h2 => hf1 a (Or.inl (by omega))) hr
  have heb := md_err_bd hi (S := md_sgn g (md_T g) p) (fun k _ => md_sgn_sb g (md_T g) p k)
  have hlb := md_len_bd (S := md_sgn g (md_T g) p) hi
  refine jk_aload_n (q := 11) dX12_loopLength_10 rfl rfl ?_
  refine jk_getA (q := 14) (k := 12) 6 6 rfl (by first | exact hx0 | exact hs.1 | exact hs.2.1 _ _ rfl | exact hfo.1 | exact hfo.2.1 _ _ rfl | exact hwa.1.1 | exact hwa.1.2.1 | exact hwa.1.2.2 | exact hsh.1.1 | exact hsh.1.2.1 | exact hhe.1.1 | exact hba.1.1 | exact hcc.1 | exact hH.1 | exact hsc.1.1 | exact hB4.1 | exact hSN.1 | assumption) (by first | assumption | exact hs.2.2.1 _ _ rfl | exact hfo.2.2.1 _ _ rfl | exact hwa.2.1.2.2.1 | exact hsh.2.1.2.1) rfl rfl jw_381 dX12_loopLength_11 rfl ?_
  refine jk_cV0p (q := 17) (c_X11_totalLength hwa hr1 hi hsq.1 hsq.2.1 (fun i hi9 => (hsq.2.2.1 i hi9).1)) jm_X11_totalLength jw_1049 rfl (by first | exact hx0 | exact hs.1 | exact hs.2.1 _ _ rfl | exact hfo.1 | exact hfo.2.1 _ _ rfl | exact hwa.1.1 | exact hwa.1.2.1 | exact hwa.1.2.2 | exact hsh.1.1 | exact hsh.1.2.1 | exact hhe.1.1 | exact hba.1.1 | exact hcc.1 | exact hH.1 | exact hsc.1.1 | exact hB4.1 | exact hSN.1 | assumption) rfl rfl rfl dX12_loopLength_14 rfl ?_
  rw [(cs_rise hsq i1.1).2]
  exact jk_iret rfl dX12_loopLength_17 (by exact ln_rqI hf1 (by unfold md_q_ll; rw [ln_why0 zr zc]; exact if_neg (by decide)))
theorem c_X12_misclosure {G : jk_G} {n : Nat} {t : jk_T} {σ : jk_I} {ρ : jk_P} {x : Nat} {g : Int → Int} {B : Int} {p : Int} (hz : zz_ok G) (hx : zx_ok G) (hln : ln_at t ρ x) (hr : cl_rel σ (x + 2) g) (ha : md_all B g) (hnn : cl_nn σ (x + 2)) (hsi : md_sit g) (hp : jk_in p) : jk_K G yX12_misclosure mX12_misclosure 6 36 [.ref x, jI p] n t σ ρ (ln_RQ x ((md_q_mc g p).1) (jI (md_q_mc g p).2) σ n t ρ) (ln_RX x ((md_q_mc g p).1) (ex_2 "java/lang/IndexOutOfBoundsException" "java/util/NoSuchElementException") σ n t ρ) := by
  obtain ⟨hx0, ⟨hx1, hx2, hx3, hx4, hx5, hx6, hx7, hx8, hx9, hx10, hx11, hx12⟩, hB4, hSN, hH, hhe, hba, hch, hsc⟩ := id hln
  obtain ⟨hcc, hwa, hsh, hwy, hyc⟩ := id hch
  obtain ⟨-, -, hfo, hfw⟩ := id hwa
  obtain ⟨-, -, -, -, hs, hsf⟩ := id hfo
  have hi := ha.1
  have hw := ha.2.1
  have hxx := ha.2.2.1
  have i0 := hi.1
  have i1 := hi.2.1
  have i2 := hi.2.2.1
  have i3 := hi.2.2.2.1
  obtain ⟨q0, q1, q2, q3⟩ := hr.1
  have hf0 : ln_fr x σ σ := fun _ _ => rfl
  refine jk_entryB (ls := [some (.ref x), some (jI p)]) jm_X12_misclosure.1 rfl rfl rfl ?_
  refine jk_aload_n (q := 1) dX12_misclosure_0 rfl rfl ?_
  refine jk_iload_n (q := 2) dX12_misclosure_1 rfl rfl ?_
  refine jk_cV1g (q := 5) (c_X12_requireLine hz hx hln hr ha hnn hsi hp) jm_X12_requireLine jw_944 rfl (by first | exact hx0 | exact hs.1 | exact hs.2.1 _ _ rfl | exact hfo.1 | exact hfo.2.1 _ _ rfl | exact hwa.1.1 | exact hwa.1.2.1 | exact hwa.1.2.2 | exact hsh.1.1 | exact hsh.1.2.1 | exact hhe.1.1 | exact hba.1.1 | exact hcc.1 | exact hH.1 | exact hsc.1.1 | exact hB4.1 | exact hSN.1 | assumption) rfl rfl (by decide) (by decide) rfl dX12_misclosure_2 rfl (fun v' n' t' σ8 ρ' hq => ?_) (fun E n' t' σ' ρ' hx9 => by
            obtain ⟨rfl, hn9, rfl, rfl, zr, rfl⟩ := hx9
            exact ln_rx (c := 1) hn9 hf0 (by unfold md_q_mc; rw [ln_why1 zr]; rfl) (by decide) rfl)
  obtain ⟨rfl, hn9, ht9, hr9, zr, hss⟩ := hq
  replace hn9 := hn9.symm; replace ht9 := ht9.symm; replace hr9 := hr9.symm; subst hn9 ht9 hr9
  simp only [Option.toList_some, Option.toList_none, List.cons_append, List.nil_append, Nat.sub_zero]
  replace hss := hss.symm
  subst hss
  refine jk_aload_n (q := 6) dX12_misclosure_5 rfl rfl ?_
  refine jk_iload_n (q := 7) dX12_misclosure_6 rfl rfl ?_
  refine jk_cV1g (q := 10) (c_X12_traceLoop (l := p) hz hx hln hr ha hnn hsi (cl_hasT zr)) jm_X12_traceLoop jw_1039 rfl (by first | exact hx0 | exact hs.1 | exact hs.2.1 _ _ rfl | exact hfo.1 | exact hfo.2.1 _ _ rfl | exact hwa.1.1 | exact hwa.1.2.1 | exact hwa.1.2.2 | exact hsh.1.1 | exact hsh.1.2.1 | exact hhe.1.1 | exact hba.1.1 | exact hcc.1 | exact hH.1 | exact hsc.1.1 | exact hB4.1 | exact hSN.1 | assumption) rfl rfl (by decide) (by decide) rfl dX12_misclosure_7 rfl (fun v' n' t' σ1 ρ' hq => ?_) (fun E n' t' σ' ρ' hx9 => by
            obtain ⟨rfl, hn9, rfl, rfl, zc, hf9⟩ := hx9
            exact ln_rx (c := 2) hn9 hf9 (by unfold md_q_mc; rw [ln_why2 zr zc]; rfl) (by decide) rfl)
  obtain ⟨rfl, hn9, ht9, hr9, zc, hf1, ho1, c9, hsq⟩ := hq
  replace hn9 := hn9.symm; replace ht9 := ht9.symm; replace hr9 := hr9.symm; subst hn9 ht9 hr9
  simp only [Option.toList_some, Option.toList_none, List.cons_append, List.nil_append, Nat.sub_zero]
  have hr1 : cl_rel σ1 (x + 2) g := cl_rel_same i2.2 (fun a h1 h2 => hf1 a (Or.inl (by omega))) hr
  have heb := md_err_bd hi (S := md_sgn g (md_T g) p) (fun k _ => md_sgn_sb g (md_T g) p k)
  have hlb := md_len_bd (S := md_sgn g (md_T g) p) hi
  refine jk_aload_n (q := 11) dX12_misclosure_10 rfl rfl ?_
  refine jk_getA (q := 14) (k := 12) 6 6 rfl (by first | exact hx0 | exact hs.1 | exact hs.2.1 _ _ rfl | exact hfo.1 | exact hfo.2.1 _ _ rfl | exact hwa.1.1 | exact hwa.1.2.1 | exact hwa.1.2.2 | exact hsh.1.1 | exact hsh.1.2.1 | exact hhe.1.1 | exact hba.1.1 | exact hcc.1 | exact hH.1 | exact hsc.1.1 | exact hB4.1 | exact hSN.1 | assumption) (by first | assumption | exact hs.2.2.1 _ _ rfl | exact hfo.2.2.1 _ _ rfl | exact hwa.2.1.2.2.1 | exact hsh.2.1.2.1) rfl rfl jw_381 dX12_misclosure_11 rfl ?_
  refine jk_cV0p (q := 17) (c_X11_rise hwa hr1 hi hsq.1 hsq.2.1 (fun i hi9 => (hsq.2.2.1 i hi9).1)) jm_X11_rise jw_1054 rfl (by first | exact hx0 | exact hs.1 | exact hs.2.1 _ _ rfl | exact hfo.1 | exact hfo.2.1 _ _ rfl | exact hwa.1.1 | exact hwa.1.2.1 | exact hwa.1.2.2 | exact hsh.1.1 | exact hsh.1.2.1 | exact hhe.1.1 | exact hba.1.1 | exact hcc.1 | exact hH.1 | exact hsc.1.1 | exact hB4.1 | exact hSN.1 | assumption) rfl rfl rfl dX12_misclosure_14 rfl ?_
  rw [(cs_rise hsq i1.1).1]
  exact jk_iret rfl dX12_misclosure_17 (by exact ln_rqI hf1 (by unfold md_q_mc; rw [ln_why0 zr zc]; exact if_neg (by decide)))
theorem c_X12_misclosureByLevels {G : jk_G} {n : Nat} {t : jk_T} {σ : jk_I} {ρ : jk_P} {x : Nat} {g : Int → Int} {B : Int} {p : Int} (hz : zz_ok G) (hx : zx_ok G) (hln : ln_at t ρ x) (hr : cl_rel σ (x + 2) g) (ha : md_all B g) (hnn : cl_nn σ (x + 2)) (hsi : md_sit g) (hp : jk_in p) : jk_K G yX12_misclosureByLevels mX12_misclosureByLevels 6 36 [.ref x, jI p] n t σ ρ (ln_RQ x ((md_q_mc g p).1) (jI (md_q_mc g p).2) σ n t ρ) (ln_RX x ((md_q_mc g p).1) (ex_2 "java/lang/IndexOutOfBoundsException" "java/util/NoSuchElementException") σ n t ρ) := by
  obtain ⟨hx0, ⟨hx1, hx2, hx3, hx4, hx5, hx6, hx7, hx8, hx9, hx10, hx11, hx12⟩, hB4, hSN, hH, hhe, hba, hch, hsc⟩ := id hln
  obtain ⟨hcc, hwa, hsh, hwy, hyc⟩ := id hch
  obtain ⟨-, -, hfo, hfw⟩ := id hwa
  obtain ⟨-, -, -, -, hs, hsf⟩ := id hfo
  have hi := ha.1
  have hw := ha.2.1
  have hxx := ha.2.2.1
  have i0 := hi.1
  have i1 := hi.2.1
  have i2 := hi.2.2.1
  have i3 := hi.2.2.2.1
  obtain ⟨q0, q1, q2, q3⟩ := hr.1
  have hf0 : ln_fr x σ σ := fun _ _ => rfl
  refine jk_entryB (ls := [some (.ref x), some (jI p)]) jm_X12_misclosureByLevels.1 rfl rfl rfl ?_
  refine jk_aload_n (q := 1) dX12_misclosureByLevels_0 rfl rfl ?_
  refine jk_iload_n (q := 2) dX12_misclosureByLevels_1 rfl rfl ?_
  refine jk_cV1g (q := 5) (c_X12_requireLine hz hx hln hr ha hnn hsi hp) jm_X12_requireLine jw_944 rfl (by first | exact hx0 | exact hs.1 | exact hs.2.1 _ _ rfl | exact hfo.1 | exact hfo.2.1 _ _ rfl | exact hwa.1.1 | exact hwa.1.2.1 | exact hwa.1.2.2 | exact hsh.1.1 | exact hsh.1.2.1 | exact hhe.1.1 | exact hba.1.1 | exact hcc.1 | exact hH.1 | exact hsc.1.1 | exact hB4.1 | exact hSN.1 | assumption) rfl rfl (by decide) (by decide) rfl dX12_misclosureByLevels_2 rfl (fun v' n' t' σ8 ρ' hq => ?_) (fun E n' t' σ' ρ' hx9 => by
            obtain ⟨rfl, hn9, rfl, rfl, zr, rfl⟩ := hx9
            exact ln_rx (c := 1) hn9 hf0 (by unfold md_q_mc; rw [ln_why1 zr]; rfl) (by decide) rfl)
  obtain ⟨rfl, hn9, ht9, hr9, zr, hss⟩ := hq
  replace hn9 := hn9.symm; replace ht9 := ht9.symm; replace hr9 := hr9.symm; subst hn9 ht9 hr9
  simp only [Option.toList_some, Option.toList_none, List.cons_append, List.nil_append, Nat.sub_zero]
  replace hss := hss.symm
  subst hss
  refine jk_aload_n (q := 6) dX12_misclosureByLevels_5 rfl rfl ?_
  refine jk_iload_n (q := 7) dX12_misclosureByLevels_6 rfl rfl ?_
  refine jk_cV1g (q := 10) (c_X12_traceLoop (l := p) hz hx hln hr ha hnn hsi (cl_hasT zr)) jm_X12_traceLoop jw_1039 rfl (by first | exact hx0 | exact hs.1 | exact hs.2.1 _ _ rfl | exact hfo.1 | exact hfo.2.1 _ _ rfl | exact hwa.1.1 | exact hwa.1.2.1 | exact hwa.1.2.2 | exact hsh.1.1 | exact hsh.1.2.1 | exact hhe.1.1 | exact hba.1.1 | exact hcc.1 | exact hH.1 | exact hsc.1.1 | exact hB4.1 | exact hSN.1 | assumption) rfl rfl (by decide) (by decide) rfl dX12_misclosureByLevels_7 rfl (fun v' n' t' σ1 ρ' hq => ?_) (fun E n' t' σ' ρ' hx9 => by
            obtain ⟨rfl, hn9, rfl, rfl, zc, hf9⟩ := hx9
            exact ln_rx (c := 2) hn9 hf9 (by unfold md_q_mc; rw [ln_why2 zr zc]; rfl) (by decide) rfl)
  obtain ⟨rfl, hn9, ht9, hr9, zc, hf1, ho1, c9, hsq⟩ := hq
  replace hn9 := hn9.symm; replace ht9 := ht9.symm; replace hr9 := hr9.symm; subst hn9 ht9 hr9
  simp only [Option.toList_some, Option.toList_none, List.cons_append, List.nil_append, Nat.sub_zero]
  have hr1 : cl_rel σ1 (x + 2) g := cl_rel_same i2.2 (fun a h1 h2 => hf1 a (Or.inl (by omega))) hr
  have heb := md_err_bd hi (S := md_sgn g (md_T g) p) (fun k _ => md_sgn_sb g (md_T g) p k)
  have hlb := md_len_bd (S := md_sgn g (md_T g) p) hi
  refine jk_aload_n (q := 11) dX12_misclosureByLevels_10 rfl rfl ?_
  refine jk_getA (q := 14) (k := 12) 8 8 rfl (by first | exact hx0 | exact hs.1 | exact hs.2.1 _ _ rfl | exact hfo.1 | exact hfo.2.1 _ _ rfl | exact hwa.1.1 | exact hwa.1.2.1 | exact hwa.1.2.2 | exact hsh.1.1 | exact hsh.1.2.1 | exact hhe.1.1 | exact hba.1.1 | exact hcc.1 | exact hH.1 | exact hsc.1.1 | exact hB4.1 | exact hSN.1 | assumption) (by first | assumption | exact hs.2.2.1 _ _ rfl | exact hfo.2.2.1 _ _ rfl | exact hwa.2.1.2.2.1 | exact hsh.2.1.2.1) rfl rfl jw_383 dX12_misclosureByLevels_11 rfl ?_
  refine jk_iload_n (q := 15) dX12_misclosureByLevels_14 rfl rfl ?_
  refine jk_cV1g (q := 18) (c_X4_gapByLevels hhe hr1 hi ho1 hw (cl_hasT zr) zc) jm_X4_gapByLevels jw_1059 rfl (by first | exact hx0 | exact hs.1 | exact hs.2.1 _ _ rfl | exact hfo.1 | exact hfo.2.1 _ _ rfl | exact hwa.1.1 | exact hwa.1.2.1 | exact hwa.1.2.2 | exact hsh.1.1 | exact hsh.1.2.1 | exact hhe.1.1 | exact hba.1.1 | exact hcc.1 | exact hH.1 | exact hsc.1.1 | exact hB4.1 | exact hSN.1 | assumption) rfl rfl (Nat.zero_le _) (Nat.zero_le _) rfl dX12_misclosureByLevels_15 rfl (fun v' n' t' σ2 ρ' hq => ?_) (fun _ _ _ _ _ h => h.elim)
  obtain ⟨rfl, hn9, ht9, hr9, hp2⟩ := hq
  replace hn9 := hn9.symm; replace ht9 := ht9.symm; replace hr9 := hr9.symm; subst hn9 ht9 hr9
  simp only [Option.toList_some, Option.toList_none, List.cons_append, List.nil_append, Nat.sub_zero]
  have hf2 : ln_fr x σ σ2 := fun a h => (hp2 a (by omega)).trans (hf1 a h)
  have hr2 : cl_rel σ2 (x + 2) g := cl_rel_same i2.2 (fun a h1 h2 => hf2 a (Or.inl (by omega))) hr
  have ho2 : fo_ok σ2 (x + 512) g := fo_ok_same (fun a h1 h2 => hp2 a (by omega)) ho1
  exact jk_iret rfl dX12_misclosureByLevels_18 (by exact ln_rqI hf2 (by unfold md_q_mc; rw [ln_why0 zr zc]; exact if_neg (by decide)))
theorem c_X12_part {G : jk_G} {n : Nat} {t : jk_T} {σ : jk_I} {ρ : jk_P} {x : Nat} {g : Int → Int} {B : Int} {p k : Int} (hz : zz_ok G) (hx : zx_ok G) (hln : ln_at t ρ x) (hr : cl_rel σ (x + 2) g) (ha : md_all B g) (hnn : cl_nn σ (x + 2)) (hsi : md_sit g) (hp : jk_in p) (hk : jk_in k) : jk_K G yX12_part mX12_part 6 36 [.ref x, jI p, jI k] n t σ ρ (ln_RQ x ((md_q_pt g p k).1) (jI (md_q_pt g p k).2) σ n t ρ) (ln_RX x ((md_q_pt g p k).1) (ex_2 "java/lang/IndexOutOfBoundsException" "java/util/NoSuchElementException") σ n t ρ) := by
  obtain ⟨hx0, ⟨hx1, hx2, hx3, hx4, hx5, hx6, hx7, hx8, hx9, hx10, hx11, hx12⟩, hB4, hSN, hH, hhe, hba, hch, hsc⟩ := id hln
  obtain ⟨hcc, hwa, hsh, hwy, hyc⟩ := id hch
  obtain ⟨-, -, hfo, hfw⟩ := id hwa
  obtain ⟨-, -, -, -, hs, hsf⟩ := id hfo
  have hi := ha.1
  have hw := ha.2.1
  have hxx := ha.2.2.1
  have i0 := hi.1
  have i1 := hi.2.1
  have i2 := hi.2.2.1
  have i3 := hi.2.2.2.1
  obtain ⟨q0, q1, q2, q3⟩ := hr.1
  have hf0 : ln_fr x σ σ := fun _ _ => rfl
  refine jk_entryB (ls := [some (.ref x), some (jI p), some (jI k)]) jm_X12_part.1 rfl rfl rfl ?_
  refine jk_aload_n (q := 1) dX12_part_0 rfl rfl ?_
  refine jk_iload_n (q := 2) dX12_part_1 rfl rfl ?_
  refine jk_cV1g (q := 5) (c_X12_requireLine hz hx hln hr ha hnn hsi hp) jm_X12_requireLine jw_944 rfl (by first | exact hx0 | exact hs.1 | exact hs.2.1 _ _ rfl | exact hfo.1 | exact hfo.2.1 _ _ rfl | exact hwa.1.1 | exact hwa.1.2.1 | exact hwa.1.2.2 | exact hsh.1.1 | exact hsh.1.2.1 | exact hhe.1.1 | exact hba.1.1 | exact hcc.1 | exact hH.1 | exact hsc.1.1 | exact hB4.1 | exact hSN.1 | assumption) rfl rfl (by decide) (by decide) rfl dX12_part_2 rfl (fun v' n' t' σ8 ρ' hq => ?_) (fun E n' t' σ' ρ' hx9 => by
            obtain ⟨rfl, hn9, rfl, rfl, zr, rfl⟩ := hx9
            exact ln_rx hn9 hf0 (by unfold md_q_pt; rw [if_pos (Or.inl (by rw [cl_mi]; exact zr))]) (by decide) rfl)
  obtain ⟨rfl, hn9, ht9, hr9, zr, hss⟩ := hq
  replace hn9 := hn9.symm; replace ht9 := ht9.symm; replace hr9 := hr9.symm; subst hn9 ht9 hr9
  simp only [Option.toList_some, Option.toList_none, List.cons_append, List.nil_append, Nat.sub_zero]
  replace hss := hss.symm
  subst hss
  refine jk_aload_n (q := 6) dX12_part_5 rfl rfl ?_
  refine jk_iload_n (q := 7) dX12_part_6 rfl rfl ?_
  refine jk_cV1g (q := 10) (c_X12_requireLine hz hx hln hr ha hnn hsi hk) jm_X12_requireLine jw_944 rfl (by first | exact hx0 | exact hs.1 | exact hs.2.1 _ _ rfl | exact hfo.1 | exact hfo.2.1 _ _ rfl | exact hwa.1.1 | exact hwa.1.2.1 | exact hwa.1.2.2 | exact hsh.1.1 | exact hsh.1.2.1 | exact hhe.1.1 | exact hba.1.1 | exact hcc.1 | exact hH.1 | exact hsc.1.1 | exact hB4.1 | exact hSN.1 | assumption) rfl rfl (by decide) (by decide) rfl dX12_part_7 rfl (fun v' n' t' σ8b ρ' hq => ?_) (fun E n' t' σ' ρ' hx9 => by
            obtain ⟨rfl, hn9, rfl, rfl, zrb, rfl⟩ := hx9
            exact ln_rx hn9 hf0 (by unfold md_q_pt; rw [if_pos (Or.inr (by rw [cl_mi]; exact zrb))]) (by decide) rfl)
  obtain ⟨rfl, hn9, ht9, hr9, zrb, hss⟩ := hq
  replace hn9 := hn9.symm; replace ht9 := ht9.symm; replace hr9 := hr9.symm; subst hn9 ht9 hr9
  simp only [Option.toList_some, Option.toList_none, List.cons_append, List.nil_append, Nat.sub_zero]
  replace hss := hss.symm
  subst hss
  refine jk_aload_n (q := 11) dX12_part_10 rfl rfl ?_
  refine jk_iload_n (q := 12) dX12_part_11 rfl rfl ?_
  refine jk_cV1g (q := 15) (c_X12_traceLoop (l := p) hz hx hln hr ha hnn hsi (cl_hasT zr)) jm_X12_traceLoop jw_1039 rfl (by first | exact hx0 | exact hs.1 | exact hs.2.1 _ _ rfl | exact hfo.1 | exact hfo.2.1 _ _ rfl | exact hwa.1.1 | exact hwa.1.2.1 | exact hwa.1.2.2 | exact hsh.1.1 | exact hsh.1.2.1 | exact hhe.1.1 | exact hba.1.1 | exact hcc.1 | exact hH.1 | exact hsc.1.1 | exact hB4.1 | exact hSN.1 | assumption) rfl rfl (by decide) (by decide) rfl dX12_part_12 rfl (fun v' n' t' σ1 ρ' hq => ?_) (fun E n' t' σ' ρ' hx9 => by
            obtain ⟨rfl, hn9, rfl, rfl, zc, hf9⟩ := hx9
            exact ln_rx (c := 2) hn9 hf9 (by unfold md_q_pt; rw [if_neg (by rw [cl_mi, cl_mi, zr, zrb]; decide), ln_why2 zr zc]; rfl) (by decide) rfl)
  obtain ⟨rfl, hn9, ht9, hr9, zc, hf1, ho1, c9, hsq⟩ := hq
  replace hn9 := hn9.symm; replace ht9 := ht9.symm; replace hr9 := hr9.symm; subst hn9 ht9 hr9
  simp only [Option.toList_some, Option.toList_none, List.cons_append, List.nil_append, Nat.sub_zero]
  have hr1 : cl_rel σ1 (x + 2) g := cl_rel_same i2.2 (fun a h1 h2 => hf1 a (Or.inl (by omega))) hr
  have heb := md_err_bd hi (S := md_sgn g (md_T g) p) (fun k _ => md_sgn_sb g (md_T g) p k)
  have hlb := md_len_bd (S := md_sgn g (md_T g) p) hi
  refine jk_aload_n (q := 16) dX12_part_15 rfl rfl ?_
  refine jk_getA (q := 19) (k := 12) 7 7 rfl (by first | exact hx0 | exact hs.1 | exact hs.2.1 _ _ rfl | exact hfo.1 | exact hfo.2.1 _ _ rfl | exact hwa.1.1 | exact hwa.1.2.1 | exact hwa.1.2.2 | exact hsh.1.1 | exact hsh.1.2.1 | exact hhe.1.1 | exact hba.1.1 | exact hcc.1 | exact hH.1 | exact hsc.1.1 | exact hB4.1 | exact hSN.1 | assumption) (by first | assumption | exact hs.2.2.1 _ _ rfl | exact hfo.2.2.1 _ _ rfl | exact hwa.2.1.2.2.1 | exact hsh.2.1.2.1) rfl rfl jw_382 dX12_part_16 rfl ?_
  refine jk_aload_n (q := 20) dX12_part_19 rfl rfl ?_
  refine jk_getA (q := 23) (k := 12) 6 6 rfl (by first | exact hx0 | exact hs.1 | exact hs.2.1 _ _ rfl | exact hfo.1 | exact hfo.2.1 _ _ rfl | exact hwa.1.1 | exact hwa.1.2.1 | exact hwa.1.2.2 | exact hsh.1.1 | exact hsh.1.2.1 | exact hhe.1.1 | exact hba.1.1 | exact hcc.1 | exact hH.1 | exact hsc.1.1 | exact hB4.1 | exact hSN.1 | assumption) (by first | assumption | exact hs.2.2.1 _ _ rfl | exact hfo.2.2.1 _ _ rfl | exact hwa.2.1.2.2.1 | exact hsh.2.1.2.1) rfl rfl jw_381 dX12_part_20 rfl ?_
  refine jk_cV1g (q := 26) (c_X8_divide hsh hwa hwy hr1 hi hsq (fun j => md_sgn_sb g (md_T g) p j) (md_len_pos hi hw (cl_hasT zr))) jm_X8_divide jw_1067 rfl (by first | exact hx0 | exact hs.1 | exact hs.2.1 _ _ rfl | exact hfo.1 | exact hfo.2.1 _ _ rfl | exact hwa.1.1 | exact hwa.1.2.1 | exact hwa.1.2.2 | exact hsh.1.1 | exact hsh.1.2.1 | exact hhe.1.1 | exact hba.1.1 | exact hcc.1 | exact hH.1 | exact hsc.1.1 | exact hB4.1 | exact hSN.1 | assumption) rfl rfl (Nat.zero_le _) (Nat.zero_le _) rfl dX12_part_23 rfl (fun v' n' t' σ2 ρ' hq => ?_) (fun _ _ _ _ _ h => h.elim)
  obtain ⟨rfl, hn9, ht9, hr9, hp2, hq2⟩ := hq
  replace hn9 := hn9.symm; replace ht9 := ht9.symm; replace hr9 := hr9.symm; subst hn9 ht9 hr9
  simp only [Option.toList_some, Option.toList_none, List.cons_append, List.nil_append, Nat.sub_zero]
  have hk9 := cl_hasT zrb
  have hpv := hq2 k ⟨by omega, by omega⟩
  refine jk_aload_n (q := 27) dX12_part_26 rfl rfl ?_
  refine jk_getA (q := 30) (k := 12) 7 7 rfl (by first | exact hx0 | exact hs.1 | exact hs.2.1 _ _ rfl | exact hfo.1 | exact hfo.2.1 _ _ rfl | exact hwa.1.1 | exact hwa.1.2.1 | exact hwa.1.2.2 | exact hsh.1.1 | exact hsh.1.2.1 | exact hhe.1.1 | exact hba.1.1 | exact hcc.1 | exact hH.1 | exact hsc.1.1 | exact hB4.1 | exact hSN.1 | assumption) (by first | assumption | exact hs.2.2.1 _ _ rfl | exact hfo.2.2.1 _ _ rfl | exact hwa.2.1.2.2.1 | exact hsh.2.1.2.1) rfl rfl jw_382 dX12_part_27 rfl ?_
  refine jk_getA (q := 33) (k := 8) 1 1 rfl (by first | exact hx0 | exact hs.1 | exact hs.2.1 _ _ rfl | exact hfo.1 | exact hfo.2.1 _ _ rfl | exact hwa.1.1 | exact hwa.1.2.1 | exact hwa.1.2.2 | exact hsh.1.1 | exact hsh.1.2.1 | exact hhe.1.1 | exact hba.1.1 | exact hcc.1 | exact hH.1 | exact hsc.1.1 | exact hB4.1 | exact hSN.1 | assumption) (by first | assumption | exact hs.2.2.1 _ _ rfl | exact hfo.2.2.1 _ _ rfl | exact hwa.2.1.2.2.1 | exact hsh.2.1.2.1) rfl rfl jw_246 dX12_part_30 rfl ?_
  refine jk_iload_n (q := 34) dX12_part_33 rfl rfl ?_
  refine jk_ialdR (q := 35) (by first | exact hx0 | exact hs.1 | exact hs.2.1 _ _ rfl | exact hfo.1 | exact hfo.2.1 _ _ rfl | exact hwa.1.1 | exact hwa.1.2.1 | exact hwa.1.2.2 | exact hsh.1.1 | exact hsh.1.2.1 | exact hhe.1.1 | exact hba.1.1 | exact hcc.1 | exact hH.1 | exact hsc.1.1 | exact hB4.1 | exact hSN.1 | assumption) (by first | exact jk_row_same _ _ _ | ((repeat rewrite [jk_row_ne _ _ (by omega)]); first | exact jk_row_same _ _ _ | rfl)) (by first | assumption | decide | omega | exact jB_01 _ | exact jB_in _ | exact ⟨by omega, by omega⟩) dX12_part_34 rfl ?_
  rw [hpv]
  exact jk_iret rfl dX12_part_35 (by exact ln_rqI (fun a h => (hp2 a (by omega) (by omega)).trans (hf1 a h)) (by unfold md_q_pt; rw [if_neg (by rw [cl_mi, cl_mi, zr, zrb]; decide), ln_why0 zr zc]; exact if_neg (by decide)))
theorem c_X12_wetColumns {G : jk_G} {n : Nat} {t : jk_T} {σ : jk_I} {ρ : jk_P} {x : Nat} {g : Int → Int} {B : Int} {p : Int} (hz : zz_ok G) (hx : zx_ok G) (hln : ln_at t ρ x) (hr : cl_rel σ (x + 2) g) (ha : md_all B g) (hnn : cl_nn σ (x + 2)) (hsi : md_sit g) (hB : B ≤ 100000) (hp : jk_in p) : jk_K G yX12_wetColumns mX12_wetColumns 6 36 [.ref x, jI p] n t σ ρ (ln_RQ x ((md_q_wc g p).1) (jI (md_q_wc g p).2) σ n t ρ) (ln_RX x ((md_q_wc g p).1) (ex_2 "java/lang/IndexOutOfBoundsException" "java/util/NoSuchElementException") σ n t ρ) := by
  obtain ⟨hx0, ⟨hx1, hx2, hx3, hx4, hx5, hx6, hx7, hx8, hx9, hx10, hx11, hx12⟩, hB4, hSN, hH, hhe, hba, hch, hsc⟩ := id hln
  obtain ⟨hcc, hwa, hsh, hwy, hyc⟩ := id hch
  obtain ⟨-, -, hfo, hfw⟩ := id hwa
  obtain ⟨-, -, -, -, hs, hsf⟩ := id hfo
  have hi := ha.1
  have hw := ha.2.1
  have hxx := ha.2.2.1
  have i0 := hi.1
  have i1 := hi.2.1
  have i2 := hi.2.2.1
  have i3 := hi.2.2.2.1
  obtain ⟨q0, q1, q2, q3⟩ := hr.1
  have hf0 : ln_fr x σ σ := fun _ _ => rfl
  refine jk_entryB (ls := [some (.ref x), some (jI p)]) jm_X12_wetColumns.1 rfl rfl rfl ?_
  refine jk_aload_n (q := 1) dX12_wetColumns_0 rfl rfl ?_
  refine jk_iload_n (q := 2) dX12_wetColumns_1 rfl rfl ?_
  refine jk_cV1g (q := 5) (c_X12_requireProfile hz hx hln hr ha hnn hsi hp) jm_X12_requireProfile jw_1076 rfl (by first | exact hx0 | exact hs.1 | exact hs.2.1 _ _ rfl | exact hfo.1 | exact hfo.2.1 _ _ rfl | exact hwa.1.1 | exact hwa.1.2.1 | exact hwa.1.2.2 | exact hsh.1.1 | exact hsh.1.2.1 | exact hhe.1.1 | exact hba.1.1 | exact hcc.1 | exact hH.1 | exact hsc.1.1 | exact hB4.1 | exact hSN.1 | assumption) rfl rfl (by decide) (by decide) rfl dX12_wetColumns_2 rfl (fun v' n' t' σ8 ρ' hq => ?_) (fun E n' t' σ' ρ' hx9 => by
            obtain ⟨rfl, hn9, rfl, rfl, zr, rfl⟩ := hx9
            exact ln_rx (c := 1) hn9 hf0 (by unfold md_q_wc; rw [ln_wng1 zr]; rfl) (by decide) rfl)
  obtain ⟨rfl, hn9, ht9, hr9, zr, hss⟩ := hq
  replace hn9 := hn9.symm; replace ht9 := ht9.symm; replace hr9 := hr9.symm; subst hn9 ht9 hr9
  simp only [Option.toList_some, Option.toList_none, List.cons_append, List.nil_append, Nat.sub_zero]
  replace hss := hss.symm
  subst hss
  have hp9 := cl_hasT zr
  obtain ⟨q, hq9⟩ : ∃ q : Nat, p = (q : Int) := ⟨p.toNat, by omega⟩
  subst hq9
  obtain ⟨r1, r2, r3⟩ := hr.2.2.2 q hp9.2
  have hqi := hi.2.2.2.2.2.2.2.1 (q : Int) ⟨by omega, by omega⟩
  have hsite := hsi (q : Int) hp9
  refine jk_aload_n (q := 6) dX12_wetColumns_5 rfl rfl ?_
  refine jk_aload_n (q := 7) dX12_wetColumns_6 rfl rfl ?_
  refine jk_getA (q := 10) (k := 12) 0 0 rfl (by first | exact hx0 | exact hs.1 | exact hs.2.1 _ _ rfl | exact hfo.1 | exact hfo.2.1 _ _ rfl | exact hwa.1.1 | exact hwa.1.2.1 | exact hwa.1.2.2 | exact hsh.1.1 | exact hsh.1.2.1 | exact hhe.1.1 | exact hba.1.1 | exact hcc.1 | exact hH.1 | exact hsc.1.1 | exact hB4.1 | exact hSN.1 | assumption) (by first | assumption | exact hs.2.2.1 _ _ rfl | exact hfo.2.2.1 _ _ rfl | exact hwa.2.1.2.2.1 | exact hsh.2.1.2.1) rfl rfl jw_375 dX12_wetColumns_7 rfl ?_
  refine jk_getA (q := 13) (k := 9) 13 13 rfl (by first | exact hx0 | exact hs.1 | exact hs.2.1 _ _ rfl | exact hfo.1 | exact hfo.2.1 _ _ rfl | exact hwa.1.1 | exact hwa.1.2.1 | exact hwa.1.2.2 | exact hsh.1.1 | exact hsh.1.2.1 | exact hhe.1.1 | exact hba.1.1 | exact hcc.1 | exact hH.1 | exact hsc.1.1 | exact hB4.1 | exact hSN.1 | assumption) (by first | assumption | exact hs.2.2.1 _ _ rfl | exact hfo.2.2.1 _ _ rfl | exact hwa.2.1.2.2.1 | exact hsh.2.1.2.1) rfl rfl jw_110 dX12_wetColumns_10 rfl ?_
  refine jk_iload_n (q := 14) dX12_wetColumns_13 rfl rfl ?_
  refine jk_ialdR (q := 15) (by first | exact hx0 | exact hs.1 | exact hs.2.1 _ _ rfl | exact hfo.1 | exact hfo.2.1 _ _ rfl | exact hwa.1.1 | exact hwa.1.2.1 | exact hwa.1.2.2 | exact hsh.1.1 | exact hsh.1.2.1 | exact hhe.1.1 | exact hba.1.1 | exact hcc.1 | exact hH.1 | exact hsc.1.1 | exact hB4.1 | exact hSN.1 | assumption) (by first | exact jk_row_same _ _ _ | ((repeat rewrite [jk_row_ne _ _ (by omega)]); first | exact jk_row_same _ _ _ | rfl)) (by first | assumption | decide | omega | exact jB_01 _ | exact jB_in _ | exact ⟨by omega, by omega⟩) dX12_wetColumns_14 rfl ?_
  rw [r1]
  refine jk_cV1g (q := 18) (c_X12_requireHeight (p := g (152 + (q : Int))) hz hx hln hr ha hnn hsi ⟨by omega, by omega⟩) jm_X12_requireHeight jw_878 rfl (by first | exact hx0 | exact hs.1 | exact hs.2.1 _ _ rfl | exact hfo.1 | exact hfo.2.1 _ _ rfl | exact hwa.1.1 | exact hwa.1.2.1 | exact hwa.1.2.2 | exact hsh.1.1 | exact hsh.1.2.1 | exact hhe.1.1 | exact hba.1.1 | exact hcc.1 | exact hH.1 | exact hsc.1.1 | exact hB4.1 | exact hSN.1 | assumption) rfl rfl (by decide) (by decide) rfl dX12_wetColumns_15 rfl (fun v' n' t' σ1 ρ' hq => ?_) (fun E n' t' σ' ρ' hx9 => by
            obtain ⟨rfl, hn9, rfl, rfl, zh, hf9⟩ := hx9
            exact ln_rx (c := 2) hn9 hf9 (by unfold md_q_wc; rw [ln_wng2 zr zh]; rfl) (by decide) rfl)
  obtain ⟨rfl, hn9, ht9, hr9, zh, hf1, ho1⟩ := hq
  replace hn9 := hn9.symm; replace ht9 := ht9.symm; replace hr9 := hr9.symm; subst hn9 ht9 hr9
  simp only [Option.toList_some, Option.toList_none, List.cons_append, List.nil_append, Nat.sub_zero]
  have hr1 : cl_rel σ1 (x + 2) g := cl_rel_same i2.2 (fun a h1 h2 => hf1 a (Or.inl (by omega))) hr
  have hnn1 : cl_nn σ1 (x + 2) := cl_nn_same (fun q hq => hf1 _ (Or.inl (by omega))) hnn
  refine jk_aload_n (q := 19) dX12_wetColumns_18 rfl rfl ?_
  refine jk_getA (q := 22) (k := 12) 9 9 rfl (by first | exact hx0 | exact hs.1 | exact hs.2.1 _ _ rfl | exact hfo.1 | exact hfo.2.1 _ _ rfl | exact hwa.1.1 | exact hwa.1.2.1 | exact hwa.1.2.2 | exact hsh.1.1 | exact hsh.1.2.1 | exact hhe.1.1 | exact hba.1.1 | exact hcc.1 | exact hH.1 | exact hsc.1.1 | exact hB4.1 | exact hSN.1 | assumption) (by first | assumption | exact hs.2.2.1 _ _ rfl | exact hfo.2.2.1 _ _ rfl | exact hwa.2.1.2.2.1 | exact hsh.2.1.2.1) rfl rfl jw_384 dX12_wetColumns_19 rfl ?_
  refine jk_iload_n (q := 23) dX12_wetColumns_22 rfl rfl ?_
  refine jk_aload_n (q := 24) dX12_wetColumns_23 rfl rfl ?_
  refine jk_iload_n (q := 25) dX12_wetColumns_24 rfl rfl ?_
  refine jk_cV1g (q := 28) (c_X12_surfaceAt (q := q) hz hx hln hr1 ha hnn1 hsi ho1 hp9.2 zh) jm_X12_surfaceAt jw_1107 rfl (by first | exact hx0 | exact hs.1 | exact hs.2.1 _ _ rfl | exact hfo.1 | exact hfo.2.1 _ _ rfl | exact hwa.1.1 | exact hwa.1.2.1 | exact hwa.1.2.2 | exact hsh.1.1 | exact hsh.1.2.1 | exact hhe.1.1 | exact hba.1.1 | exact hcc.1 | exact hH.1 | exact hsc.1.1 | exact hB4.1 | exact hSN.1 | assumption) rfl rfl (Nat.zero_le _) (Nat.zero_le _) rfl dX12_wetColumns_25 rfl (fun v' n' t' σ2 ρ' hq => ?_) (fun _ _ _ _ _ h => h.elim)
  obtain ⟨rfl, hn9, ht9, hr9, hf2a, ho2⟩ := hq
  replace hn9 := hn9.symm; replace ht9 := ht9.symm; replace hr9 := hr9.symm; subst hn9 ht9 hr9
  simp only [Option.toList_some, Option.toList_none, List.cons_append, List.nil_append, Nat.sub_zero]
  have hf2 : ln_fr x σ σ2 := fun a h => (hf2a a h).trans (hf1 a h)
  have hr2 : cl_rel σ2 (x + 2) g := cl_rel_same i2.2 (fun a h1 h2 => hf2 a (Or.inl (by omega))) hr
  have hnn2 : cl_nn σ2 (x + 2) := cl_nn_same (fun q hq => hf2 _ (Or.inl (by omega))) hnn
  have hhb := md_HT_bd2 hi hB (p := g (152 + (q : Int))) ⟨by omega, by omega⟩ zh
  refine jk_cV2p (q := 31) (c_X1_wetByColumns hba hr2 hi hxx hnn2 hp9.2 ⟨by omega, by omega⟩) jm_X1_wetByColumns jw_1111 rfl (by first | exact hx0 | exact hs.1 | exact hs.2.1 _ _ rfl | exact hfo.1 | exact hfo.2.1 _ _ rfl | exact hwa.1.1 | exact hwa.1.2.1 | exact hwa.1.2.2 | exact hsh.1.1 | exact hsh.1.2.1 | exact hhe.1.1 | exact hba.1.1 | exact hcc.1 | exact hH.1 | exact hsc.1.1 | exact hB4.1 | exact hSN.1 | assumption) rfl rfl rfl dX12_wetColumns_28 rfl ?_
  exact jk_iret rfl dX12_wetColumns_31 (by exact ln_rqI hf2 (by unfold md_q_wc; rw [ln_wng0 zr zh, if_neg (by decide)]; exact congrArg (fun v => ((0 : Int), v)) (cb_ref hxx hp9 hqi.1.2).1))
theorem c_X12_wetColumnsBySegments {G : jk_G} {n : Nat} {t : jk_T} {σ : jk_I} {ρ : jk_P} {x : Nat} {g : Int → Int} {B : Int} {p : Int} (hz : zz_ok G) (hx : zx_ok G) (hln : ln_at t ρ x) (hr : cl_rel σ (x + 2) g) (ha : md_all B g) (hnn : cl_nn σ (x + 2)) (hsi : md_sit g) (hB : B ≤ 100000) (hp : jk_in p) : jk_K G yX12_wetColumnsBySegments mX12_wetColumnsBySegments 6 36 [.ref x, jI p] n t σ ρ (ln_RQ x ((md_q_wc g p).1) (jI (md_q_wc g p).2) σ n t ρ) (ln_RX x ((md_q_wc g p).1) (ex_2 "java/lang/IndexOutOfBoundsException" "java/util/NoSuchElementException") σ n t ρ) := by
  obtain ⟨hx0, ⟨hx1, hx2, hx3, hx4, hx5, hx6, hx7, hx8, hx9, hx10, hx11, hx12⟩, hB4, hSN, hH, hhe, hba, hch, hsc⟩ := id hln
  obtain ⟨hcc, hwa, hsh, hwy, hyc⟩ := id hch
  obtain ⟨-, -, hfo, hfw⟩ := id hwa
  obtain ⟨-, -, -, -, hs, hsf⟩ := id hfo
  have hi := ha.1
  have hw := ha.2.1
  have hxx := ha.2.2.1
  have i0 := hi.1
  have i1 := hi.2.1
  have i2 := hi.2.2.1
  have i3 := hi.2.2.2.1
  obtain ⟨q0, q1, q2, q3⟩ := hr.1
  have hf0 : ln_fr x σ σ := fun _ _ => rfl
  refine jk_entryB (ls := [some (.ref x), some (jI p)]) jm_X12_wetColumnsBySegments.1 rfl rfl rfl ?_
  refine jk_aload_n (q := 1) dX12_wetColumnsBySegments_0 rfl rfl ?_
  refine jk_iload_n (q := 2) dX12_wetColumnsBySegments_1 rfl rfl ?_
  refine jk_cV1g (q := 5) (c_X12_requireProfile hz hx hln hr ha hnn hsi hp) jm_X12_requireProfile jw_1076 rfl (by first | exact hx0 | exact hs.1 | exact hs.2.1 _ _ rfl | exact hfo.1 | exact hfo.2.1 _ _ rfl | exact hwa.1.1 | exact hwa.1.2.1 | exact hwa.1.2.2 | exact hsh.1.1 | exact hsh.1.2.1 | exact hhe.1.1 | exact hba.1.1 | exact hcc.1 | exact hH.1 | exact hsc.1.1 | exact hB4.1 | exact hSN.1 | assumption) rfl rfl (by decide) (by decide) rfl dX12_wetColumnsBySegments_2 rfl (fun v' n' t' σ8 ρ' hq => ?_) (fun E n' t' σ' ρ' hx9 => by
            obtain ⟨rfl, hn9, rfl, rfl, zr, rfl⟩ := hx9
            exact ln_rx (c := 1) hn9 hf0 (by unfold md_q_wc; rw [ln_wng1 zr]; rfl) (by decide) rfl)
  obtain ⟨rfl, hn9, ht9, hr9, zr, hss⟩ := hq
  replace hn9 := hn9.symm; replace ht9 := ht9.symm; replace hr9 := hr9.symm; subst hn9 ht9 hr9
  simp only [Option.toList_some, Option.toList_none, List.cons_append, List.nil_append, Nat.sub_zero]
  replace hss := hss.symm
  subst hss
  have hp9 := cl_hasT zr
  obtain ⟨q, hq9⟩ : ∃ q : Nat, p = (q : Int) := ⟨p.toNat, by omega⟩
  subst hq9
  obtain ⟨r1, r2, r3⟩ := hr.2.2.2 q hp9.2
  have hqi := hi.2.2.2.2.2.2.2.1 (q : Int) ⟨by omega, by omega⟩
  have hsite := hsi (q : Int) hp9
  refine jk_aload_n (q := 6) dX12_wetColumnsBySegments_5 rfl rfl ?_
  refine jk_aload_n (q := 7) dX12_wetColumnsBySegments_6 rfl rfl ?_
  refine jk_getA (q := 10) (k := 12) 0 0 rfl (by first | exact hx0 | exact hs.1 | exact hs.2.1 _ _ rfl | exact hfo.1 | exact hfo.2.1 _ _ rfl | exact hwa.1.1 | exact hwa.1.2.1 | exact hwa.1.2.2 | exact hsh.1.1 | exact hsh.1.2.1 | exact hhe.1.1 | exact hba.1.1 | exact hcc.1 | exact hH.1 | exact hsc.1.1 | exact hB4.1 | exact hSN.1 | assumption) (by first | assumption | exact hs.2.2.1 _ _ rfl | exact hfo.2.2.1 _ _ rfl | exact hwa.2.1.2.2.1 | exact hsh.2.1.2.1) rfl rfl jw_375 dX12_wetColumnsBySegments_7 rfl ?_
  refine jk_getA (q := 13) (k := 9) 13 13 rfl (by first | exact hx0 | exact hs.1 | exact hs.2.1 _ _ rfl | exact hfo.1 | exact hfo.2.1 _ _ rfl | exact hwa.1.1 | exact hwa.1.2.1 | exact hwa.1.2.2 | exact hsh.1.1 | exact hsh.1.2.1 | exact hhe.1.1 | exact hba.1.1 | exact hcc.1 | exact hH.1 | exact hsc.1.1 | exact hB4.1 | exact hSN.1 | assumption) (by first | assumption | exact hs.2.2.1 _ _ rfl | exact hfo.2.2.1 _ _ rfl | exact hwa.2.1.2.2.1 | exact hsh.2.1.2.1) rfl rfl jw_110 dX12_wetColumnsBySegments_10 rfl ?_
  refine jk_iload_n (q := 14) dX12_wetColumnsBySegments_13 rfl rfl ?_
  refine jk_ialdR (q := 15) (by first | exact hx0 | exact hs.1 | exact hs.2.1 _ _ rfl | exact hfo.1 | exact hfo.2.1 _ _ rfl | exact hwa.1.1 | exact hwa.1.2.1 | exact hwa.1.2.2 | exact hsh.1.1 | exact hsh.1.2.1 | exact hhe.1.1 | exact hba.1.1 | exact hcc.1 | exact hH.1 | exact hsc.1.1 | exact hB4.1 | exact hSN.1 | assumption) (by first | exact jk_row_same _ _ _ | ((repeat rewrite [jk_row_ne _ _ (by omega)]); first | exact jk_row_same _ _ _ | rfl)) (by first | assumption | decide | omega | exact jB_01 _ | exact jB_in _ | exact ⟨by omega, by omega⟩) dX12_wetColumnsBySegments_14 rfl ?_
  rw [r1]
  refine jk_cV1g (q := 18) (c_X12_requireHeight (p := g (152 + (q : Int))) hz hx hln hr ha hnn hsi ⟨by omega, by omega⟩) jm_X12_requireHeight jw_878 rfl (by first | exact hx0 | exact hs.1 | exact hs.2.1 _ _ rfl | exact hfo.1 | exact hfo.2.1 _ _ rfl | exact hwa.1.1 | exact hwa.1.2.1 | exact hwa.1.2.2 | exact hsh.1.1 | exact hsh.1.2.1 | exact hhe.1.1 | exact hba.1.1 | exact hcc.1 | exact hH.1 | exact hsc.1.1 | exact hB4.1 | exact hSN.1 | assumption) rfl rfl (by decide) (by decide) rfl dX12_wetColumnsBySegments_15 rfl (fun v' n' t' σ1 ρ' hq => ?_) (fun E n' t' σ' ρ' hx9 => by
            obtain ⟨rfl, hn9, rfl, rfl, zh, hf9⟩ := hx9
            exact ln_rx (c := 2) hn9 hf9 (by unfold md_q_wc; rw [ln_wng2 zr zh]; rfl) (by decide) rfl)
  obtain ⟨rfl, hn9, ht9, hr9, zh, hf1, ho1⟩ := hq
  replace hn9 := hn9.symm; replace ht9 := ht9.symm; replace hr9 := hr9.symm; subst hn9 ht9 hr9
  simp only [Option.toList_some, Option.toList_none, List.cons_append, List.nil_append, Nat.sub_zero]
  have hr1 : cl_rel σ1 (x + 2) g := cl_rel_same i2.2 (fun a h1 h2 => hf1 a (Or.inl (by omega))) hr
  have hnn1 : cl_nn σ1 (x + 2) := cl_nn_same (fun q hq => hf1 _ (Or.inl (by omega))) hnn
  refine jk_aload_n (q := 19) dX12_wetColumnsBySegments_18 rfl rfl ?_
  refine jk_getA (q := 22) (k := 12) 9 9 rfl (by first | exact hx0 | exact hs.1 | exact hs.2.1 _ _ rfl | exact hfo.1 | exact hfo.2.1 _ _ rfl | exact hwa.1.1 | exact hwa.1.2.1 | exact hwa.1.2.2 | exact hsh.1.1 | exact hsh.1.2.1 | exact hhe.1.1 | exact hba.1.1 | exact hcc.1 | exact hH.1 | exact hsc.1.1 | exact hB4.1 | exact hSN.1 | assumption) (by first | assumption | exact hs.2.2.1 _ _ rfl | exact hfo.2.2.1 _ _ rfl | exact hwa.2.1.2.2.1 | exact hsh.2.1.2.1) rfl rfl jw_384 dX12_wetColumnsBySegments_19 rfl ?_
  refine jk_iload_n (q := 23) dX12_wetColumnsBySegments_22 rfl rfl ?_
  refine jk_aload_n (q := 24) dX12_wetColumnsBySegments_23 rfl rfl ?_
  refine jk_iload_n (q := 25) dX12_wetColumnsBySegments_24 rfl rfl ?_
  refine jk_cV1g (q := 28) (c_X12_surfaceAt (q := q) hz hx hln hr1 ha hnn1 hsi ho1 hp9.2 zh) jm_X12_surfaceAt jw_1107 rfl (by first | exact hx0 | exact hs.1 | exact hs.2.1 _ _ rfl | exact hfo.1 | exact hfo.2.1 _ _ rfl | exact hwa.1.1 | exact hwa.1.2.1 | exact hwa.1.2.2 | exact hsh.1.1 | exact hsh.1.2.1 | exact hhe.1.1 | exact hba.1.1 | exact hcc.1 | exact hH.1 | exact hsc.1.1 | exact hB4.1 | exact hSN.1 | assumption) rfl rfl (Nat.zero_le _) (Nat.zero_le _) rfl dX12_wetColumnsBySegments_25 rfl (fun v' n' t' σ2 ρ' hq => ?_) (fun _ _ _ _ _ h => h.elim)
  obtain ⟨rfl, hn9, ht9, hr9, hf2a, ho2⟩ := hq
  replace hn9 := hn9.symm; replace ht9 := ht9.symm; replace hr9 := hr9.symm; subst hn9 ht9 hr9
  simp only [Option.toList_some, Option.toList_none, List.cons_append, List.nil_append, Nat.sub_zero]
  have hf2 : ln_fr x σ σ2 := fun a h => (hf2a a h).trans (hf1 a h)
  have hr2 : cl_rel σ2 (x + 2) g := cl_rel_same i2.2 (fun a h1 h2 => hf2 a (Or.inl (by omega))) hr
  have hnn2 : cl_nn σ2 (x + 2) := cl_nn_same (fun q hq => hf2 _ (Or.inl (by omega))) hnn
  have hhb := md_HT_bd2 hi hB (p := g (152 + (q : Int))) ⟨by omega, by omega⟩ zh
  refine jk_cV2p (q := 31) (c_X1_wetBySegments hba hr2 hi hxx hnn2 hp9.2 ⟨by omega, by omega⟩) jm_X1_wetBySegments jw_1120 rfl (by first | exact hx0 | exact hs.1 | exact hs.2.1 _ _ rfl | exact hfo.1 | exact hfo.2.1 _ _ rfl | exact hwa.1.1 | exact hwa.1.2.1 | exact hwa.1.2.2 | exact hsh.1.1 | exact hsh.1.2.1 | exact hhe.1.1 | exact hba.1.1 | exact hcc.1 | exact hH.1 | exact hsc.1.1 | exact hB4.1 | exact hSN.1 | assumption) rfl rfl rfl dX12_wetColumnsBySegments_28 rfl ?_
  exact jk_iret rfl dX12_wetColumnsBySegments_31 (by exact ln_rqI hf2 (by unfold md_q_wc; rw [ln_wng0 zr zh, if_neg (by decide)]; exact congrArg (fun v => ((0 : Int), v)) (cb_ref hxx hp9 hqi.1.2).1))
theorem c_X12_shores {G : jk_G} {n : Nat} {t : jk_T} {σ : jk_I} {ρ : jk_P} {x : Nat} {g : Int → Int} {B : Int} {p : Int} (hz : zz_ok G) (hx : zx_ok G) (hln : ln_at t ρ x) (hr : cl_rel σ (x + 2) g) (ha : md_all B g) (hnn : cl_nn σ (x + 2)) (hsi : md_sit g) (hB : B ≤ 100000) (hp : jk_in p) : jk_K G yX12_shores mX12_shores 6 36 [.ref x, jI p] n t σ ρ (ln_RQ x ((md_q_sh g p).1) (jI (md_q_sh g p).2) σ n t ρ) (ln_RX x ((md_q_sh g p).1) (ex_2 "java/lang/IndexOutOfBoundsException" "java/util/NoSuchElementException") σ n t ρ) := by
  obtain ⟨hx0, ⟨hx1, hx2, hx3, hx4, hx5, hx6, hx7, hx8, hx9, hx10, hx11, hx12⟩, hB4, hSN, hH, hhe, hba, hch, hsc⟩ := id hln
  obtain ⟨hcc, hwa, hsh, hwy, hyc⟩ := id hch
  obtain ⟨-, -, hfo, hfw⟩ := id hwa
  obtain ⟨-, -, -, -, hs, hsf⟩ := id hfo
  have hi := ha.1
  have hw := ha.2.1
  have hxx := ha.2.2.1
  have i0 := hi.1
  have i1 := hi.2.1
  have i2 := hi.2.2.1
  have i3 := hi.2.2.2.1
  obtain ⟨q0, q1, q2, q3⟩ := hr.1
  have hf0 : ln_fr x σ σ := fun _ _ => rfl
  refine jk_entryB (ls := [some (.ref x), some (jI p)]) jm_X12_shores.1 rfl rfl rfl ?_
  refine jk_aload_n (q := 1) dX12_shores_0 rfl rfl ?_
  refine jk_iload_n (q := 2) dX12_shores_1 rfl rfl ?_
  refine jk_cV1g (q := 5) (c_X12_requireProfile hz hx hln hr ha hnn hsi hp) jm_X12_requireProfile jw_1076 rfl (by first | exact hx0 | exact hs.1 | exact hs.2.1 _ _ rfl | exact hfo.1 | exact hfo.2.1 _ _ rfl | exact hwa.1.1 | exact hwa.1.2.1 | exact hwa.1.2.2 | exact hsh.1.1 | exact hsh.1.2.1 | exact hhe.1.1 | exact hba.1.1 | exact hcc.1 | exact hH.1 | exact hsc.1.1 | exact hB4.1 | exact hSN.1 | assumption) rfl rfl (by decide) (by decide) rfl dX12_shores_2 rfl (fun v' n' t' σ8 ρ' hq => ?_) (fun E n' t' σ' ρ' hx9 => by
            obtain ⟨rfl, hn9, rfl, rfl, zr, rfl⟩ := hx9
            exact ln_rx (c := 1) hn9 hf0 (by unfold md_q_sh; rw [ln_wng1 zr]; rfl) (by decide) rfl)
  obtain ⟨rfl, hn9, ht9, hr9, zr, hss⟩ := hq
  replace hn9 := hn9.symm; replace ht9 := ht9.symm; replace hr9 := hr9.symm; subst hn9 ht9 hr9
  simp only [Option.toList_some, Option.toList_none, List.cons_append, List.nil_append, Nat.sub_zero]
  replace hss := hss.symm
  subst hss
  have hp9 := cl_hasT zr
  obtain ⟨q, hq9⟩ : ∃ q : Nat, p = (q : Int) := ⟨p.toNat, by omega⟩
  subst hq9
  obtain ⟨r1, r2, r3⟩ := hr.2.2.2 q hp9.2
  have hqi := hi.2.2.2.2.2.2.2.1 (q : Int) ⟨by omega, by omega⟩
  have hsite := hsi (q : Int) hp9
  refine jk_aload_n (q := 6) dX12_shores_5 rfl rfl ?_
  refine jk_aload_n (q := 7) dX12_shores_6 rfl rfl ?_
  refine jk_getA (q := 10) (k := 12) 0 0 rfl (by first | exact hx0 | exact hs.1 | exact hs.2.1 _ _ rfl | exact hfo.1 | exact hfo.2.1 _ _ rfl | exact hwa.1.1 | exact hwa.1.2.1 | exact hwa.1.2.2 | exact hsh.1.1 | exact hsh.1.2.1 | exact hhe.1.1 | exact hba.1.1 | exact hcc.1 | exact hH.1 | exact hsc.1.1 | exact hB4.1 | exact hSN.1 | assumption) (by first | assumption | exact hs.2.2.1 _ _ rfl | exact hfo.2.2.1 _ _ rfl | exact hwa.2.1.2.2.1 | exact hsh.2.1.2.1) rfl rfl jw_375 dX12_shores_7 rfl ?_
  refine jk_getA (q := 13) (k := 9) 13 13 rfl (by first | exact hx0 | exact hs.1 | exact hs.2.1 _ _ rfl | exact hfo.1 | exact hfo.2.1 _ _ rfl | exact hwa.1.1 | exact hwa.1.2.1 | exact hwa.1.2.2 | exact hsh.1.1 | exact hsh.1.2.1 | exact hhe.1.1 | exact hba.1.1 | exact hcc.1 | exact hH.1 | exact hsc.1.1 | exact hB4.1 | exact hSN.1 | assumption) (by first | assumption | exact hs.2.2.1 _ _ rfl | exact hfo.2.2.1 _ _ rfl | exact hwa.2.1.2.2.1 | exact hsh.2.1.2.1) rfl rfl jw_110 dX12_shores_10 rfl ?_
  refine jk_iload_n (q := 14) dX12_shores_13 rfl rfl ?_
  refine jk_ialdR (q := 15) (by first | exact hx0 | exact hs.1 | exact hs.2.1 _ _ rfl | exact hfo.1 | exact hfo.2.1 _ _ rfl | exact hwa.1.1 | exact hwa.1.2.1 | exact hwa.1.2.2 | exact hsh.1.1 | exact hsh.1.2.1 | exact hhe.1.1 | exact hba.1.1 | exact hcc.1 | exact hH.1 | exact hsc.1.1 | exact hB4.1 | exact hSN.1 | assumption) (by first | exact jk_row_same _ _ _ | ((repeat rewrite [jk_row_ne _ _ (by omega)]); first | exact jk_row_same _ _ _ | rfl)) (by first | assumption | decide | omega | exact jB_01 _ | exact jB_in _ | exact ⟨by omega, by omega⟩) dX12_shores_14 rfl ?_
  rw [r1]
  refine jk_cV1g (q := 18) (c_X12_requireHeight (p := g (152 + (q : Int))) hz hx hln hr ha hnn hsi ⟨by omega, by omega⟩) jm_X12_requireHeight jw_878 rfl (by first | exact hx0 | exact hs.1 | exact hs.2.1 _ _ rfl | exact hfo.1 | exact hfo.2.1 _ _ rfl | exact hwa.1.1 | exact hwa.1.2.1 | exact hwa.1.2.2 | exact hsh.1.1 | exact hsh.1.2.1 | exact hhe.1.1 | exact hba.1.1 | exact hcc.1 | exact hH.1 | exact hsc.1.1 | exact hB4.1 | exact hSN.1 | assumption) rfl rfl (by decide) (by decide) rfl dX12_shores_15 rfl (fun v' n' t' σ1 ρ' hq => ?_) (fun E n' t' σ' ρ' hx9 => by
            obtain ⟨rfl, hn9, rfl, rfl, zh, hf9⟩ := hx9
            exact ln_rx (c := 2) hn9 hf9 (by unfold md_q_sh; rw [ln_wng2 zr zh]; rfl) (by decide) rfl)
  obtain ⟨rfl, hn9, ht9, hr9, zh, hf1, ho1⟩ := hq
  replace hn9 := hn9.symm; replace ht9 := ht9.symm; replace hr9 := hr9.symm; subst hn9 ht9 hr9
  simp only [Option.toList_some, Option.toList_none, List.cons_append, List.nil_append, Nat.sub_zero]
  have hr1 : cl_rel σ1 (x + 2) g := cl_rel_same i2.2 (fun a h1 h2 => hf1 a (Or.inl (by omega))) hr
  have hnn1 : cl_nn σ1 (x + 2) := cl_nn_same (fun q hq => hf1 _ (Or.inl (by omega))) hnn
  refine jk_aload_n (q := 19) dX12_shores_18 rfl rfl ?_
  refine jk_getA (q := 22) (k := 12) 9 9 rfl (by first | exact hx0 | exact hs.1 | exact hs.2.1 _ _ rfl | exact hfo.1 | exact hfo.2.1 _ _ rfl | exact hwa.1.1 | exact hwa.1.2.1 | exact hwa.1.2.2 | exact hsh.1.1 | exact hsh.1.2.1 | exact hhe.1.1 | exact hba.1.1 | exact hcc.1 | exact hH.1 | exact hsc.1.1 | exact hB4.1 | exact hSN.1 | assumption) (by first | assumption | exact hs.2.2.1 _ _ rfl | exact hfo.2.2.1 _ _ rfl | exact hwa.2.1.2.2.1 | exact hsh.2.1.2.1) rfl rfl jw_384 dX12_shores_19 rfl ?_
  refine jk_iload_n (q := 23) dX12_shores_22 rfl rfl ?_
  refine jk_aload_n (q := 24) dX12_shores_23 rfl rfl ?_
  refine jk_iload_n (q := 25) dX12_shores_24 rfl rfl ?_
  refine jk_cV1g (q := 28) (c_X12_surfaceAt (q := q) hz hx hln hr1 ha hnn1 hsi ho1 hp9.2 zh) jm_X12_surfaceAt jw_1107 rfl (by first | exact hx0 | exact hs.1 | exact hs.2.1 _ _ rfl | exact hfo.1 | exact hfo.2.1 _ _ rfl | exact hwa.1.1 | exact hwa.1.2.1 | exact hwa.1.2.2 | exact hsh.1.1 | exact hsh.1.2.1 | exact hhe.1.1 | exact hba.1.1 | exact hcc.1 | exact hH.1 | exact hsc.1.1 | exact hB4.1 | exact hSN.1 | assumption) rfl rfl (Nat.zero_le _) (Nat.zero_le _) rfl dX12_shores_25 rfl (fun v' n' t' σ2 ρ' hq => ?_) (fun _ _ _ _ _ h => h.elim)
  obtain ⟨rfl, hn9, ht9, hr9, hf2a, ho2⟩ := hq
  replace hn9 := hn9.symm; replace ht9 := ht9.symm; replace hr9 := hr9.symm; subst hn9 ht9 hr9
  simp only [Option.toList_some, Option.toList_none, List.cons_append, List.nil_append, Nat.sub_zero]
  have hf2 : ln_fr x σ σ2 := fun a h => (hf2a a h).trans (hf1 a h)
  have hr2 : cl_rel σ2 (x + 2) g := cl_rel_same i2.2 (fun a h1 h2 => hf2 a (Or.inl (by omega))) hr
  have hnn2 : cl_nn σ2 (x + 2) := cl_nn_same (fun q hq => hf2 _ (Or.inl (by omega))) hnn
  have hhb := md_HT_bd2 hi hB (p := g (152 + (q : Int))) ⟨by omega, by omega⟩ zh
  refine jk_cV2p (q := 31) (c_X1_shoreLines hba hr2 hi hxx hnn2 hp9.2 ⟨by omega, by omega⟩) jm_X1_shoreLines jw_1136 rfl (by first | exact hx0 | exact hs.1 | exact hs.2.1 _ _ rfl | exact hfo.1 | exact hfo.2.1 _ _ rfl | exact hwa.1.1 | exact hwa.1.2.1 | exact hwa.1.2.2 | exact hsh.1.1 | exact hsh.1.2.1 | exact hhe.1.1 | exact hba.1.1 | exact hcc.1 | exact hH.1 | exact hsc.1.1 | exact hB4.1 | exact hSN.1 | assumption) rfl rfl rfl dX12_shores_28 rfl ?_
  exact jk_iret rfl dX12_shores_31 (by exact ln_rqI hf2 (by unfold md_q_sh; rw [ln_wng0 zr zh, if_neg (by decide)]; exact congrArg (fun v => ((0 : Int), v)) (cb_ref hxx hp9 hqi.1.2).2))
theorem c_X12_lowestColumn {G : jk_G} {n : Nat} {t : jk_T} {σ : jk_I} {ρ : jk_P} {x : Nat} {g : Int → Int} {B : Int} {p : Int} (hz : zz_ok G) (hx : zx_ok G) (hln : ln_at t ρ x) (hr : cl_rel σ (x + 2) g) (ha : md_all B g) (hnn : cl_nn σ (x + 2)) (hsi : md_sit g) (hp : jk_in p) : jk_K G yX12_lowestColumn mX12_lowestColumn 6 36 [.ref x, jI p] n t σ ρ (ln_RQ x ((md_q_lw g p).1) (jI (md_q_lw g p).2) σ n t ρ) (ln_RX x ((md_q_lw g p).1) (ex_2 "java/lang/IndexOutOfBoundsException" "java/util/NoSuchElementException") σ n t ρ) := by
  obtain ⟨hx0, ⟨hx1, hx2, hx3, hx4, hx5, hx6, hx7, hx8, hx9, hx10, hx11, hx12⟩, hB4, hSN, hH, hhe, hba, hch, hsc⟩ := id hln
  obtain ⟨hcc, hwa, hsh, hwy, hyc⟩ := id hch
  obtain ⟨-, -, hfo, hfw⟩ := id hwa
  obtain ⟨-, -, -, -, hs, hsf⟩ := id hfo
  have hi := ha.1
  have hw := ha.2.1
  have hxx := ha.2.2.1
  have i0 := hi.1
  have i1 := hi.2.1
  have i2 := hi.2.2.1
  have i3 := hi.2.2.2.1
  obtain ⟨q0, q1, q2, q3⟩ := hr.1
  have hf0 : ln_fr x σ σ := fun _ _ => rfl
  refine jk_entryB (ls := [some (.ref x), some (jI p)]) jm_X12_lowestColumn.1 rfl rfl rfl ?_
  refine jk_aload_n (q := 1) dX12_lowestColumn_0 rfl rfl ?_
  refine jk_iload_n (q := 2) dX12_lowestColumn_1 rfl rfl ?_
  refine jk_cV1g (q := 5) (c_X12_requireProfile hz hx hln hr ha hnn hsi hp) jm_X12_requireProfile jw_1076 rfl (by first | exact hx0 | exact hs.1 | exact hs.2.1 _ _ rfl | exact hfo.1 | exact hfo.2.1 _ _ rfl | exact hwa.1.1 | exact hwa.1.2.1 | exact hwa.1.2.2 | exact hsh.1.1 | exact hsh.1.2.1 | exact hhe.1.1 | exact hba.1.1 | exact hcc.1 | exact hH.1 | exact hsc.1.1 | exact hB4.1 | exact hSN.1 | assumption) rfl rfl (by decide) (by decide) rfl dX12_lowestColumn_2 rfl (fun v' n' t' σ8 ρ' hq => ?_) (fun E n' t' σ' ρ' hx9 => by
            obtain ⟨rfl, hn9, rfl, rfl, zr, rfl⟩ := hx9
            exact ln_rx hn9 hf0 (by unfold md_q_lw; rw [ln_e0 zr]) (by decide) rfl)
  obtain ⟨rfl, hn9, ht9, hr9, zr, hss⟩ := hq
  replace hn9 := hn9.symm; replace ht9 := ht9.symm; replace hr9 := hr9.symm; subst hn9 ht9 hr9
  simp only [Option.toList_some, Option.toList_none, List.cons_append, List.nil_append, Nat.sub_zero]
  replace hss := hss.symm
  subst hss
  have hp9 := cl_hasT zr
  obtain ⟨q, hq9⟩ : ∃ q : Nat, p = (q : Int) := ⟨p.toNat, by omega⟩
  subst hq9
  obtain ⟨r1, r2, r3⟩ := hr.2.2.2 q hp9.2
  have hqi := hi.2.2.2.2.2.2.2.1 (q : Int) ⟨by omega, by omega⟩
  have hsite := hsi (q : Int) hp9
  refine jk_aload_n (q := 6) dX12_lowestColumn_5 rfl rfl ?_
  refine jk_getA (q := 9) (k := 12) 0 0 rfl (by first | exact hx0 | exact hs.1 | exact hs.2.1 _ _ rfl | exact hfo.1 | exact hfo.2.1 _ _ rfl | exact hwa.1.1 | exact hwa.1.2.1 | exact hwa.1.2.2 | exact hsh.1.1 | exact hsh.1.2.1 | exact hhe.1.1 | exact hba.1.1 | exact hcc.1 | exact hH.1 | exact hsc.1.1 | exact hB4.1 | exact hSN.1 | assumption) (by first | assumption | exact hs.2.2.1 _ _ rfl | exact hfo.2.2.1 _ _ rfl | exact hwa.2.1.2.2.1 | exact hsh.2.1.2.1) rfl rfl jw_375 dX12_lowestColumn_6 rfl ?_
  refine jk_getA (q := 12) (k := 9) 14 14 rfl (by first | exact hx0 | exact hs.1 | exact hs.2.1 _ _ rfl | exact hfo.1 | exact hfo.2.1 _ _ rfl | exact hwa.1.1 | exact hwa.1.2.1 | exact hwa.1.2.2 | exact hsh.1.1 | exact hsh.1.2.1 | exact hhe.1.1 | exact hba.1.1 | exact hcc.1 | exact hH.1 | exact hsc.1.1 | exact hB4.1 | exact hSN.1 | assumption) (by first | assumption | exact hs.2.2.1 _ _ rfl | exact hfo.2.2.1 _ _ rfl | exact hwa.2.1.2.2.1 | exact hsh.2.1.2.1) rfl rfl jw_114 dX12_lowestColumn_9 rfl ?_
  refine jk_iload_n (q := 13) dX12_lowestColumn_12 rfl rfl ?_
  refine jk_ialdR (q := 14) (by first | exact hx0 | exact hs.1 | exact hs.2.1 _ _ rfl | exact hfo.1 | exact hfo.2.1 _ _ rfl | exact hwa.1.1 | exact hwa.1.2.1 | exact hwa.1.2.2 | exact hsh.1.1 | exact hsh.1.2.1 | exact hhe.1.1 | exact hba.1.1 | exact hcc.1 | exact hH.1 | exact hsc.1.1 | exact hB4.1 | exact hSN.1 | assumption) (by first | exact jk_row_same _ _ _ | ((repeat rewrite [jk_row_ne _ _ (by omega)]); first | exact jk_row_same _ _ _ | rfl)) (by first | assumption | decide | omega | exact jB_01 _ | exact jB_in _ | exact ⟨by omega, by omega⟩) dX12_lowestColumn_13 rfl ?_
  rw [r2]
  refine jk_if_ne (q := 28) (q2 := 17) dX12_lowestColumn_14 rfl rfl (by first | assumption | decide | omega | exact jB_01 _ | exact jB_in _ | exact ⟨by omega, by omega⟩) (fun z1 => ?_) (fun z1 => ?_)
  · refine jk_aload_n (q := 29) dX12_lowestColumn_28 rfl rfl ?_
    refine jk_getA (q := 32) (k := 12) 9 9 rfl (by first | exact hx0 | exact hs.1 | exact hs.2.1 _ _ rfl | exact hfo.1 | exact hfo.2.1 _ _ rfl | exact hwa.1.1 | exact hwa.1.2.1 | exact hwa.1.2.2 | exact hsh.1.1 | exact hsh.1.2.1 | exact hhe.1.1 | exact hba.1.1 | exact hcc.1 | exact hH.1 | exact hsc.1.1 | exact hB4.1 | exact hSN.1 | assumption) (by first | assumption | exact hs.2.2.1 _ _ rfl | exact hfo.2.2.1 _ _ rfl | exact hwa.2.1.2.2.1 | exact hsh.2.1.2.1) rfl rfl jw_384 dX12_lowestColumn_29 rfl ?_
    refine jk_iload_n (q := 33) dX12_lowestColumn_32 rfl rfl ?_
    refine jk_cV1p (q := 36) (c_X1_columnOfLowestOffset hba hr hi hxx hnn hp9.2 (by omega)) jm_X1_columnOfLowestOffset jw_1145 rfl (by first | exact hx0 | exact hs.1 | exact hs.2.1 _ _ rfl | exact hfo.1 | exact hfo.2.1 _ _ rfl | exact hwa.1.1 | exact hwa.1.2.1 | exact hwa.1.2.2 | exact hsh.1.1 | exact hsh.1.2.1 | exact hhe.1.1 | exact hba.1.1 | exact hcc.1 | exact hH.1 | exact hsc.1.1 | exact hB4.1 | exact hSN.1 | assumption) rfl rfl rfl dX12_lowestColumn_33 rfl ?_
    exact jk_iret rfl dX12_lowestColumn_36 (by exact ln_rqI hf0 (by unfold md_q_lw; rw [ln_e1 zr, if_neg (by omega)]))
  · exact jk_throwXW (jt_323_173 hx) rfl (by decide) (by decide) (by decide) (by decide) (by decide) dX12_lowestColumn_17 dX12_lowestColumn_20 dX12_lowestColumn_21 dX12_lowestColumn_24 dX12_lowestColumn_27 (fun n' hn' => ln_rx hn' hf0 (by unfold md_q_lw; rw [ln_e1 zr, if_pos (by omega)]) (by decide) rfl)
end E3
