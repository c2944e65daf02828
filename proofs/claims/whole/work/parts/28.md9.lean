section MD9
/-- what a change answers (thrown, answer, state), and the heap behind it -/
abbrev md_R3 : Type := Int × Int × (Int → Int)
def md_res (σ : jk_I) (m : Nat) (O : Int → Int) (r : md_R3) : jk_I := jk_row (jk_row σ (m + 2) r.2.2) m (jk_set O 12 r.1)
theorem md_q {n : Nat} {t : jk_T} {σ σ' : jk_I} {ρ : jk_P} {m : Nat} {O : Int → Int} {r : md_R3} {k v : Int} {g' : Int → Int} (hr : r = (k, v, g')) (hs : σ' = md_res σ m O (k, v, g')) : jk_q (some (jI r.2.1)) n t (md_res σ m O r) ρ (some (jI v)) n t σ' ρ := by subst hr hs; exact jk_qr
def md_addsPoint (g : Int → Int) : md_R3 := if g 0 = 10 then (1, 0, g) else (0, g 0, jk_set g 0 (g 0 + 1))
def md_fixG (g : Int → Int) (p v : Int) : Int → Int := jk_set (jk_set g (4 + p) 1) (14 + p) v
def md_fixes (g : Int → Int) (p v : Int) : md_R3 := if md_in p 0 (g 0 - 1) = false then (1, 0, g) else if md_in v (-99999) 99999 = false then (2, 0, g) else (0, jk_sum (fun o => md_fixG g p v (4 + o)) (g 0).toNat, md_fixG g p v)
def md_releases (g : Int → Int) (p : Int) : md_R3 := if md_in p 0 (g 0 - 1) = false then (1, 0, g) else if g (4 + p) = 0 then (2, 0, g) else (0, g (14 + p), jk_set g (4 + p) 0)
def md_addsLine (g : Int → Int) (a b f len : Int) : md_R3 :=
  if md_in a 0 (g 0 - 1) = false ∨ md_in b 0 (g 0 - 1) = false then (1, 0, g) else
  if a = b ∨ md_in f (-9999) 9999 = false ∨ md_in len 1 50 = false then (2, 0, g) else
  if g 1 = 16 then (3, 0, g) else
  (0, g 1, jk_set (jk_set (jk_set (jk_set (jk_set g (24 + g 1) a) (40 + g 1) b) (72 + g 1) f) (56 + g 1) len) 1 (g 1 + 1))
def md_runG (g : Int → Int) (l b : Int) : Int → Int := jk_set (jk_set g (88 + l) 1) (104 + l) b
def md_addsRun (g : Int → Int) (l b : Int) : md_R3 := if md_in l 0 (g 1 - 1) = false then (1, 0, g) else if md_in b (-9999) 9999 = false then (2, 0, g) else if g (88 + l) = 1 then (3, 0, g) else (0, md_gap (md_runG g l b) l, md_runG g l b)
def md_marks (g : Int → Int) (l w : Int) : md_R3 := if md_in l 0 (g 1 - 1) = false then (1, 0, g) else if g (120 + l) ≠ w then (2, 0, g) else (0, md_goods (jk_set g (120 + l) (1 - w)), jk_set g (120 + l) (1 - w))
def md_clr (g : Int → Int) (k : Int) : Int → Int := fun p => if 136 ≤ p ∧ p < 136 + k then 0 else g p
def md_resets (g : Int → Int) : md_R3 := (0, jk_sum (fun l => if g (136 + l) = 0 then 0 else 1) (g 1).toNat, md_clr g (g 1))
def md_addsProfile (g : Int → Int) (p : Int) : md_R3 := if md_in p 0 (g 0 - 1) = false then (1, 0, g) else if g 2 = 4 then (2, 0, g) else (0, g 2, jk_set (jk_set g (152 + g 2) p) 2 (g 2 + 1))
def md_stG (g : Int → Int) (q d f : Int) : Int → Int := jk_set (jk_set (jk_set g (160 + 10 * q + g (156 + q)) d) (200 + 10 * q + g (156 + q)) f) (156 + q) (g (156 + q) + 1)
def md_addsStation (g : Int → Int) (q d f : Int) : md_R3 :=
  if md_in q 0 (g 2 - 1) = false then (1, 0, g) else if md_in d 0 99 = false ∨ md_in f (-999) 999 = false then (2, 0, g) else
  if g (156 + q) = 10 ∨ (0 < g (156 + q) ∧ d ≤ g (160 + 10 * q + (g (156 + q) - 1))) then (3, 0, g) else (0, g (156 + q) + 1, md_stG g q d f)
def md_setsWater (g : Int → Int) (w : Int) : md_R3 := if md_in w (-99999) 99999 = false then (1, 0, g) else (0, g 3, jk_set g 3 w)
theorem md_inT {v a b : Int} (h : md_in v a b = true) : a ≤ v ∧ v ≤ b := of_decide_eq_true h
theorem md_inF {v a b : Int} (h : md_in v a b = false) : ¬ (a ≤ v ∧ v ≤ b) := of_decide_eq_false h
theorem c_X13_addsPoint {G : jk_G} {n : Nat} {t : jk_T} {σ : jk_I} {ρ : jk_P} {m : Nat} {g O : Int → Int} {B : Int} (hm : md_at t ρ m) (hg : σ (m + 2) = g) (hi : md_inv B g) (ho : σ m = O)  : jk_K G yX13_addsPoint mX13_addsPoint 0 0 [.ref m] n t σ ρ (jk_q (some (jI (md_addsPoint g).2.1)) n t (md_res σ m O (md_addsPoint g)) ρ) jk_no := by
  refine jk_entryB (ls := [some (.ref m)]) jm_X13_addsPoint.1 rfl rfl rfl ?_
  obtain ⟨i0, i1, i2, i3, -⟩ := id hi
  refine jk_aload_n (q := 1) dX13_addsPoint_0 rfl rfl ?_
  refine jk_getA (q := 4) (k := 13) 0 0 rfl (by first | exact hm.1 | exact hm.2.1 _ _ rfl | assumption) (by first | exact hm.2.2 _ _ rfl | assumption) rfl rfl jw_1848 dX13_addsPoint_1 rfl ?_
  refine jk_iconst (q := 5) dX13_addsPoint_4 rfl ?_
  refine jk_ialdR (q := 6) (by first | exact hm.1 | exact hm.2.1 _ _ rfl | assumption) (by first | exact jk_row_same _ _ _ | exact hg | exact ho | (rewrite [jk_row_ne _ _ (by omega)]; first | exact jk_row_same _ _ _ | exact hg | exact ho | (rewrite [jk_row_ne _ _ (by omega)]; first | exact jk_row_same _ _ _ | exact hg | exact ho | (rewrite [jk_row_ne _ _ (by omega)]; first | exact jk_row_same _ _ _ | exact hg | exact ho | (rewrite [jk_row_ne _ _ (by omega)]; first | exact hg | exact ho | rfl))))) (by first | decide | omega | exact jB_01 _) dX13_addsPoint_5 rfl ?_
  refine jk_bipush (q := 8) (y := 10) dX13_addsPoint_6 rfl (by decide) ?_
  refine jk_icmp_ne (q := 17) (q2 := 11) dX13_addsPoint_8 rfl rfl (by first | decide | omega | exact jB_01 _) (by first | decide | omega | exact jB_01 _) (fun h1 => ?_) (fun h1 => ?_)
  · refine jk_aload_n (q := 18) dX13_addsPoint_17 rfl rfl ?_
    refine jk_getA (q := 21) (k := 13) 0 0 rfl (by first | exact hm.1 | exact hm.2.1 _ _ rfl | assumption) (by first | exact hm.2.2 _ _ rfl | assumption) rfl rfl jw_1848 dX13_addsPoint_18 rfl ?_
    refine jk_iconst (q := 22) dX13_addsPoint_21 rfl ?_
    refine jk_dup2 (q := 23) dX13_addsPoint_22 rfl rfl rfl ?_
    refine jk_ialdR (q := 24) (by first | exact hm.1 | exact hm.2.1 _ _ rfl | assumption) (by first | exact jk_row_same _ _ _ | exact hg | exact ho | (rewrite [jk_row_ne _ _ (by omega)]; first | exact jk_row_same _ _ _ | exact hg | exact ho | (rewrite [jk_row_ne _ _ (by omega)]; first | exact jk_row_same _ _ _ | exact hg | exact ho | (rewrite [jk_row_ne _ _ (by omega)]; first | exact jk_row_same _ _ _ | exact hg | exact ho | (rewrite [jk_row_ne _ _ (by omega)]; first | exact hg | exact ho | rfl))))) (by first | decide | omega | exact jB_01 _) dX13_addsPoint_23 rfl ?_
    refine jk_iconst (q := 25) dX13_addsPoint_24 rfl ?_
    refine jk_iadd (q := 26) dX13_addsPoint_25 rfl ?_
    refine jk_iastR (q := 27) (by first | exact hm.1 | exact hm.2.1 _ _ rfl | assumption) (by first | exact jk_row_same _ _ _ | exact hg | exact ho | (rewrite [jk_row_ne _ _ (by omega)]; first | exact jk_row_same _ _ _ | exact hg | exact ho | (rewrite [jk_row_ne _ _ (by omega)]; first | exact jk_row_same _ _ _ | exact hg | exact ho | (rewrite [jk_row_ne _ _ (by omega)]; first | exact jk_row_same _ _ _ | exact hg | exact ho | (rewrite [jk_row_ne _ _ (by omega)]; first | exact hg | exact ho | rfl))))) (by first | decide | omega | exact jB_01 _) dX13_addsPoint_26 rfl ?_
    refine jk_aload_n (q := 28) dX13_addsPoint_27 rfl rfl ?_
    refine jk_aload_n (q := 29) dX13_addsPoint_28 rfl rfl ?_
    refine jk_getA (q := 32) (k := 13) 0 0 rfl (by first | exact hm.1 | exact hm.2.1 _ _ rfl | assumption) (by first | exact hm.2.2 _ _ rfl | assumption) rfl rfl jw_1848 dX13_addsPoint_29 rfl ?_
    refine jk_iconst (q := 33) dX13_addsPoint_32 rfl ?_
    refine jk_ialdR (q := 34) (by first | exact hm.1 | exact hm.2.1 _ _ rfl | assumption) (by first | exact jk_row_same _ _ _ | exact hg | exact ho | (rewrite [jk_row_ne _ _ (by omega)]; first | exact jk_row_same _ _ _ | exact hg | exact ho | (rewrite [jk_row_ne _ _ (by omega)]; first | exact jk_row_same _ _ _ | exact hg | exact ho | (rewrite [jk_row_ne _ _ (by omega)]; first | exact jk_row_same _ _ _ | exact hg | exact ho | (rewrite [jk_row_ne _ _ (by omega)]; first | exact hg | exact ho | rfl))))) (by first | decide | omega | exact jB_01 _) dX13_addsPoint_33 rfl ?_
    refine jk_iconst (q := 35) dX13_addsPoint_34 rfl ?_
    refine jk_isub (q := 36) dX13_addsPoint_35 rfl ?_
    refine jk_cV1p (q := 39) (c_X13_done (O := O) hm (by (try simp only [jk_row_row]); first | exact ho | exact (jk_row_ne _ _ (by omega)).trans ho | exact (jk_row_ne _ _ (by omega)).trans ((jk_row_ne _ _ (by omega)).trans ho))) jm_X13_done jw_1941 rfl (by first | exact hm.1 | exact hm.2.1 _ _ rfl | assumption) rfl rfl rfl dX13_addsPoint_36 rfl ?_
    rw [jk_set_at, show g 0 + 1 - 1 = g 0 by omega]
    exact jk_iret rfl dX13_addsPoint_39 (by exact md_q (k := 0) (v := g 0) (g' := jk_set g 0 (g 0 + 1)) (by unfold md_addsPoint; simp [*] <;> omega) (by unfold md_res md_th; simp only [jk_row_row, jk_row_id hg]; try rfl))
  · refine jk_aload_n (q := 12) dX13_addsPoint_11 rfl rfl ?_
    refine jk_iconst (q := 13) dX13_addsPoint_12 rfl ?_
    refine jk_cV1p (q := 16) (c_X13_fails hm (by first | exact ho | exact (jk_row_ne _ _ (by omega)).trans ho)) jm_X13_fails jw_1937 rfl (by first | exact hm.1 | exact hm.2.1 _ _ rfl | assumption) rfl rfl rfl dX13_addsPoint_13 rfl ?_
    exact jk_iret rfl dX13_addsPoint_16 (by exact md_q (k := 1) (v := 0) (g' := g) (by unfold md_addsPoint; simp [*] <;> omega) (by unfold md_res md_th; simp only [jk_row_row, jk_row_id hg]; try rfl))
theorem c_X13_releases {G : jk_G} {n : Nat} {t : jk_T} {σ : jk_I} {ρ : jk_P} {m : Nat} {g O : Int → Int} {B : Int} {p : Int} (hm : md_at t ρ m) (hg : σ (m + 2) = g) (hi : md_inv B g) (ho : σ m = O) (hp : jk_in p) : jk_K G yX13_releases mX13_releases 0 0 [.ref m, jI p] n t σ ρ (jk_q (some (jI (md_releases g p).2.1)) n t (md_res σ m O (md_releases g p)) ρ) jk_no := by
  refine jk_entryB (ls := [some (.ref m), some (jI p)]) jm_X13_releases.1 rfl rfl rfl ?_
  obtain ⟨i0, i1, i2, i3, -⟩ := id hi
  refine jk_aload_n (q := 1) dX13_releases_0 rfl rfl ?_
  refine jk_iload_n (q := 2) dX13_releases_1 rfl rfl ?_
  refine jk_cV1p (q := 5) (c_X13_isPoint hm hg hi (by first | assumption)) jm_X13_isPoint jw_1957 rfl (by first | exact hm.1 | exact hm.2.1 _ _ rfl | assumption) rfl rfl rfl dX13_releases_2 rfl ?_
  refine jk_ifB_ne (q := 14) (q2 := 8) dX13_releases_5 rfl rfl (fun h1 => ?_) (fun h1 => ?_)
  · have hp2 := md_inT (by assumption : md_in p 0 (g 0 - 1) = true)
    obtain ⟨q1, q2, q3⟩ := md_inv_pt hi (p := p) ⟨by omega, by omega⟩
    refine jk_aload_n (q := 15) dX13_releases_14 rfl rfl ?_
    refine jk_getA (q := 18) (k := 13) 0 0 rfl (by first | exact hm.1 | exact hm.2.1 _ _ rfl | assumption) (by first | exact hm.2.2 _ _ rfl | assumption) rfl rfl jw_1848 dX13_releases_15 rfl ?_
    refine jk_iconst (q := 19) dX13_releases_18 rfl ?_
    refine jk_iload_n (q := 20) dX13_releases_19 rfl rfl ?_
    refine jk_iadd (q := 21) dX13_releases_20 rfl ?_
    refine jk_ialdR (q := 22) (by first | exact hm.1 | exact hm.2.1 _ _ rfl | assumption) (by first | exact jk_row_same _ _ _ | exact hg | exact ho | (rewrite [jk_row_ne _ _ (by omega)]; first | exact jk_row_same _ _ _ | exact hg | exact ho | (rewrite [jk_row_ne _ _ (by omega)]; first | exact jk_row_same _ _ _ | exact hg | exact ho | (rewrite [jk_row_ne _ _ (by omega)]; first | exact jk_row_same _ _ _ | exact hg | exact ho | (rewrite [jk_row_ne _ _ (by omega)]; first | exact hg | exact ho | rfl))))) (by first | decide | omega | exact jB_01 _) dX13_releases_21 rfl ?_
    refine jk_if_ne (q := 31) (q2 := 25) dX13_releases_22 rfl rfl (by first | decide | omega | exact jB_01 _) (fun h2 => ?_) (fun h2 => ?_)
    · refine jk_aload_n (q := 32) dX13_releases_31 rfl rfl ?_
      refine jk_getA (q := 35) (k := 13) 0 0 rfl (by first | exact hm.1 | exact hm.2.1 _ _ rfl | assumption) (by first | exact hm.2.2 _ _ rfl | assumption) rfl rfl jw_1848 dX13_releases_32 rfl ?_
      refine jk_iconst (q := 36) dX13_releases_35 rfl ?_
      refine jk_iload_n (q := 37) dX13_releases_36 rfl rfl ?_
      refine jk_iadd (q := 38) dX13_releases_37 rfl ?_
      refine jk_iconst (q := 39) dX13_releases_38 rfl ?_
      refine jk_iastR (q := 40) (by first | exact hm.1 | exact hm.2.1 _ _ rfl | assumption) (by first | exact jk_row_same _ _ _ | exact hg | exact ho | (rewrite [jk_row_ne _ _ (by omega)]; first | exact jk_row_same _ _ _ | exact hg | exact ho | (rewrite [jk_row_ne _ _ (by omega)]; first | exact jk_row_same _ _ _ | exact hg | exact ho | (rewrite [jk_row_ne _ _ (by omega)]; first | exact jk_row_same _ _ _ | exact hg | exact ho | (rewrite [jk_row_ne _ _ (by omega)]; first | exact hg | exact ho | rfl))))) (by first | decide | omega | exact jB_01 _) dX13_releases_39 rfl ?_
      refine jk_aload_n (q := 41) dX13_releases_40 rfl rfl ?_
      refine jk_aload_n (q := 42) dX13_releases_41 rfl rfl ?_
      refine jk_getA (q := 45) (k := 13) 0 0 rfl (by first | exact hm.1 | exact hm.2.1 _ _ rfl | assumption) (by first | exact hm.2.2 _ _ rfl | assumption) rfl rfl jw_1848 dX13_releases_42 rfl ?_
      refine jk_bipush (q := 47) (y := 14) dX13_releases_45 rfl (by decide) ?_
      refine jk_iload_n (q := 48) dX13_releases_47 rfl rfl ?_
      refine jk_iadd (q := 49) dX13_releases_48 rfl ?_
      refine jk_ialdR (q := 50) (by first | exact hm.1 | exact hm.2.1 _ _ rfl | assumption) (by first | exact jk_row_same _ _ _ | exact hg | exact ho | (rewrite [jk_row_ne _ _ (by omega)]; first | exact jk_row_same _ _ _ | exact hg | exact ho | (rewrite [jk_row_ne _ _ (by omega)]; first | exact jk_row_same _ _ _ | exact hg | exact ho | (rewrite [jk_row_ne _ _ (by omega)]; first | exact jk_row_same _ _ _ | exact hg | exact ho | (rewrite [jk_row_ne _ _ (by omega)]; first | exact hg | exact ho | rfl))))) (by first | decide | omega | exact jB_01 _) dX13_releases_49 rfl ?_
      refine jk_cV1p (q := 53) (c_X13_done (O := O) hm (by (try simp only [jk_row_row]); first | exact ho | exact (jk_row_ne _ _ (by omega)).trans ho | exact (jk_row_ne _ _ (by omega)).trans ((jk_row_ne _ _ (by omega)).trans ho))) jm_X13_done jw_1941 rfl (by first | exact hm.1 | exact hm.2.1 _ _ rfl | assumption) rfl rfl rfl dX13_releases_50 rfl ?_
      rw [jk_set_ne _ _ (show ¬ (14 + p = 4 + p) by omega)]
      exact jk_iret rfl dX13_releases_53 (by exact md_q (k := 0) (v := g (14 + p)) (g' := jk_set g (4 + p) 0) (by unfold md_releases; simp [*] <;> omega) (by unfold md_res md_th; simp only [jk_row_row, jk_row_id hg]; try rfl))
    · refine jk_aload_n (q := 26) dX13_releases_25 rfl rfl ?_
      refine jk_iconst (q := 27) dX13_releases_26 rfl ?_
      refine jk_cV1p (q := 30) (c_X13_fails hm (by first | exact ho | exact (jk_row_ne _ _ (by omega)).trans ho)) jm_X13_fails jw_1937 rfl (by first | exact hm.1 | exact hm.2.1 _ _ rfl | assumption) rfl rfl rfl dX13_releases_27 rfl ?_
      exact jk_iret rfl dX13_releases_30 (by exact md_q (k := 2) (v := 0) (g' := g) (by unfold md_releases; simp [*] <;> omega) (by unfold md_res md_th; simp only [jk_row_row, jk_row_id hg]; try rfl))
  · refine jk_aload_n (q := 9) dX13_releases_8 rfl rfl ?_
    refine jk_iconst (q := 10) dX13_releases_9 rfl ?_
    refine jk_cV1p (q := 13) (c_X13_fails hm (by first | exact ho | exact (jk_row_ne _ _ (by omega)).trans ho)) jm_X13_fails jw_1937 rfl (by first | exact hm.1 | exact hm.2.1 _ _ rfl | assumption) rfl rfl rfl dX13_releases_10 rfl ?_
    exact jk_iret rfl dX13_releases_13 (by exact md_q (k := 1) (v := 0) (g' := g) (by unfold md_releases; simp [*] <;> omega) (by unfold md_res md_th; simp only [jk_row_row, jk_row_id hg]; try rfl))
theorem c_X13_setsWater {G : jk_G} {n : Nat} {t : jk_T} {σ : jk_I} {ρ : jk_P} {m : Nat} {g O : Int → Int} {B : Int} {w : Int} (hm : md_at t ρ m) (hg : σ (m + 2) = g) (hi : md_inv B g) (ho : σ m = O) (hw : jk_in w) : jk_K G yX13_setsWater mX13_setsWater 0 0 [.ref m, jI w] n t σ ρ (jk_q (some (jI (md_setsWater g w).2.1)) n t (md_res σ m O (md_setsWater g w)) ρ) jk_no := by
  refine jk_entryB (ls := [some (.ref m), some (jI w), none]) jm_X13_setsWater.1 rfl rfl rfl ?_
  obtain ⟨i0, i1, i2, i3, -⟩ := id hi
  refine jk_iload_n (q := 1) dX13_setsWater_0 rfl rfl ?_
  refine jk_ldcV (q := 3) (x := -99999) jw_1964 (by decide) dX13_setsWater_1 rfl ?_
  refine jk_ldcV (q := 5) (x := 99999) jw_1965 (by decide) dX13_setsWater_3 rfl ?_
  refine jk_cS3p (q := 8) (c_X13_in (by assumption) (by decide) (by decide)) jm_X13_in jw_1961 rfl rfl rfl dX13_setsWater_5 rfl ?_
  refine jk_ifB_ne (q := 17) (q2 := 11) dX13_setsWater_8 rfl rfl (fun h1 => ?_) (fun h1 => ?_)
  · refine jk_aload_n (q := 18) dX13_setsWater_17 rfl rfl ?_
    refine jk_getA (q := 21) (k := 13) 0 0 rfl (by first | exact hm.1 | exact hm.2.1 _ _ rfl | assumption) (by first | exact hm.2.2 _ _ rfl | assumption) rfl rfl jw_1848 dX13_setsWater_18 rfl ?_
    refine jk_iconst (q := 22) dX13_setsWater_21 rfl ?_
    refine jk_ialdR (q := 23) (by first | exact hm.1 | exact hm.2.1 _ _ rfl | assumption) (by first | exact jk_row_same _ _ _ | exact hg | exact ho | (rewrite [jk_row_ne _ _ (by omega)]; first | exact jk_row_same _ _ _ | exact hg | exact ho | (rewrite [jk_row_ne _ _ (by omega)]; first | exact jk_row_same _ _ _ | exact hg | exact ho | (rewrite [jk_row_ne _ _ (by omega)]; first | exact jk_row_same _ _ _ | exact hg | exact ho | (rewrite [jk_row_ne _ _ (by omega)]; first | exact hg | exact ho | rfl))))) (by first | decide | omega | exact jB_01 _) dX13_setsWater_22 rfl ?_
    refine jk_istore2 (q := 24) dX13_setsWater_23 rfl rfl rfl ?_
    refine jk_aload_n (q := 25) dX13_setsWater_24 rfl rfl ?_
    refine jk_getA (q := 28) (k := 13) 0 0 rfl (by first | exact hm.1 | exact hm.2.1 _ _ rfl | assumption) (by first | exact hm.2.2 _ _ rfl | assumption) rfl rfl jw_1848 dX13_setsWater_25 rfl ?_
    refine jk_iconst (q := 29) dX13_setsWater_28 rfl ?_
    refine jk_iload_n (q := 30) dX13_setsWater_29 rfl rfl ?_
    refine jk_iastR (q := 31) (by first | exact hm.1 | exact hm.2.1 _ _ rfl | assumption) (by first | exact jk_row_same _ _ _ | exact hg | exact ho | (rewrite [jk_row_ne _ _ (by omega)]; first | exact jk_row_same _ _ _ | exact hg | exact ho | (rewrite [jk_row_ne _ _ (by omega)]; first | exact jk_row_same _ _ _ | exact hg | exact ho | (rewrite [jk_row_ne _ _ (by omega)]; first | exact jk_row_same _ _ _ | exact hg | exact ho | (rewrite [jk_row_ne _ _ (by omega)]; first | exact hg | exact ho | rfl))))) (by first | decide | omega | exact jB_01 _) dX13_setsWater_30 rfl ?_
    refine jk_aload_n (q := 32) dX13_setsWater_31 rfl rfl ?_
    refine jk_iload_n (q := 33) dX13_setsWater_32 rfl rfl ?_
    refine jk_cV1p (q := 36) (c_X13_done (O := O) hm (by (try simp only [jk_row_row]); first | exact ho | exact (jk_row_ne _ _ (by omega)).trans ho | exact (jk_row_ne _ _ (by omega)).trans ((jk_row_ne _ _ (by omega)).trans ho))) jm_X13_done jw_1941 rfl (by first | exact hm.1 | exact hm.2.1 _ _ rfl | assumption) rfl rfl rfl dX13_setsWater_33 rfl ?_
    exact jk_iret rfl dX13_setsWater_36 (by exact md_q (k := 0) (v := g 3) (g' := jk_set g 3 w) (by unfold md_setsWater; simp [*] <;> omega) (by unfold md_res md_th; simp only [jk_row_row, jk_row_id hg]; try rfl))
  · refine jk_aload_n (q := 12) dX13_setsWater_11 rfl rfl ?_
    refine jk_iconst (q := 13) dX13_setsWater_12 rfl ?_
    refine jk_cV1p (q := 16) (c_X13_fails hm (by first | exact ho | exact (jk_row_ne _ _ (by omega)).trans ho)) jm_X13_fails jw_1937 rfl (by first | exact hm.1 | exact hm.2.1 _ _ rfl | assumption) rfl rfl rfl dX13_setsWater_13 rfl ?_
    exact jk_iret rfl dX13_setsWater_16 (by exact md_q (k := 1) (v := 0) (g' := g) (by unfold md_setsWater; simp [*] <;> omega) (by unfold md_res md_th; simp only [jk_row_row, jk_row_id hg]; try rfl))
theorem c_X13_addsProfile {G : jk_G} {n : Nat} {t : jk_T} {σ : jk_I} {ρ : jk_P} {m : Nat} {g O : Int → Int} {B : Int} {p : Int} (hm : md_at t ρ m) (hg : σ (m + 2) = g) (hi : md_inv B g) (ho : σ m = O) (hp : jk_in p) : jk_K G yX13_addsProfile mX13_addsProfile 0 0 [.ref m, jI p] n t σ ρ (jk_q (some (jI (md_addsProfile g p).2.1)) n t (md_res σ m O (md_addsProfile g p)) ρ) jk_no := by
  refine jk_entryB (ls := [some (.ref m), some (jI p), none]) jm_X13_addsProfile.1 rfl rfl rfl ?_
  obtain ⟨i0, i1, i2, i3, -⟩ := id hi
  refine jk_aload_n (q := 1) dX13_addsProfile_0 rfl rfl ?_
  refine jk_iload_n (q := 2) dX13_addsProfile_1 rfl rfl ?_
  refine jk_cV1p (q := 5) (c_X13_isPoint hm hg hi (by first | assumption)) jm_X13_isPoint jw_1957 rfl (by first | exact hm.1 | exact hm.2.1 _ _ rfl | assumption) rfl rfl rfl dX13_addsProfile_2 rfl ?_
  refine jk_ifB_ne (q := 14) (q2 := 8) dX13_addsProfile_5 rfl rfl (fun h1 => ?_) (fun h1 => ?_)
  · refine jk_aload_n (q := 15) dX13_addsProfile_14 rfl rfl ?_
    refine jk_getA (q := 18) (k := 13) 0 0 rfl (by first | exact hm.1 | exact hm.2.1 _ _ rfl | assumption) (by first | exact hm.2.2 _ _ rfl | assumption) rfl rfl jw_1848 dX13_addsProfile_15 rfl ?_
    refine jk_iconst (q := 19) dX13_addsProfile_18 rfl ?_
    refine jk_ialdR (q := 20) (by first | exact hm.1 | exact hm.2.1 _ _ rfl | assumption) (by first | exact jk_row_same _ _ _ | exact hg | exact ho | (rewrite [jk_row_ne _ _ (by omega)]; first | exact jk_row_same _ _ _ | exact hg | exact ho | (rewrite [jk_row_ne _ _ (by omega)]; first | exact jk_row_same _ _ _ | exact hg | exact ho | (rewrite [jk_row_ne _ _ (by omega)]; first | exact jk_row_same _ _ _ | exact hg | exact ho | (rewrite [jk_row_ne _ _ (by omega)]; first | exact hg | exact ho | rfl))))) (by first | decide | omega | exact jB_01 _) dX13_addsProfile_19 rfl ?_
    refine jk_istore2 (q := 21) dX13_addsProfile_20 rfl rfl rfl ?_
    refine jk_iload_n (q := 22) dX13_addsProfile_21 rfl rfl ?_
    refine jk_iconst (q := 23) dX13_addsProfile_22 rfl ?_
    refine jk_icmp_ne (q := 32) (q2 := 26) dX13_addsProfile_23 rfl rfl (by first | decide | omega | exact jB_01 _) (by first | decide | omega | exact jB_01 _) (fun h2 => ?_) (fun h2 => ?_)
    · refine jk_aload_n (q := 33) dX13_addsProfile_32 rfl rfl ?_
      refine jk_getA (q := 36) (k := 13) 0 0 rfl (by first | exact hm.1 | exact hm.2.1 _ _ rfl | assumption) (by first | exact hm.2.2 _ _ rfl | assumption) rfl rfl jw_1848 dX13_addsProfile_33 rfl ?_
      refine jk_sipush (q := 39) (y := 152) dX13_addsProfile_36 rfl (by decide) ?_
      refine jk_iload_n (q := 40) dX13_addsProfile_39 rfl rfl ?_
      refine jk_iadd (q := 41) dX13_addsProfile_40 rfl ?_
      refine jk_iload_n (q := 42) dX13_addsProfile_41 rfl rfl ?_
      refine jk_iastR (q := 43) (by first | exact hm.1 | exact hm.2.1 _ _ rfl | assumption) (by first | exact jk_row_same _ _ _ | exact hg | exact ho | (rewrite [jk_row_ne _ _ (by omega)]; first | exact jk_row_same _ _ _ | exact hg | exact ho | (rewrite [jk_row_ne _ _ (by omega)]; first | exact jk_row_same _ _ _ | exact hg | exact ho | (rewrite [jk_row_ne _ _ (by omega)]; first | exact jk_row_same _ _ _ | exact hg | exact ho | (rewrite [jk_row_ne _ _ (by omega)]; first | exact hg | exact ho | rfl))))) (by first | decide | omega | exact jB_01 _) dX13_addsProfile_42 rfl ?_
      refine jk_aload_n (q := 44) dX13_addsProfile_43 rfl rfl ?_
      refine jk_getA (q := 47) (k := 13) 0 0 rfl (by first | exact hm.1 | exact hm.2.1 _ _ rfl | assumption) (by first | exact hm.2.2 _ _ rfl | assumption) rfl rfl jw_1848 dX13_addsProfile_44 rfl ?_
      refine jk_iconst (q := 48) dX13_addsProfile_47 rfl ?_
      refine jk_dup2 (q := 49) dX13_addsProfile_48 rfl rfl rfl ?_
      refine jk_ialdR (q := 50) (by first | exact hm.1 | exact hm.2.1 _ _ rfl | assumption) (by first | exact jk_row_same _ _ _ | exact hg | exact ho | (rewrite [jk_row_ne _ _ (by omega)]; first | exact jk_row_same _ _ _ | exact hg | exact ho | (rewrite [jk_row_ne _ _ (by omega)]; first | exact jk_row_same _ _ _ | exact hg | exact ho | (rewrite [jk_row_ne _ _ (by omega)]; first | exact jk_row_same _ _ _ | exact hg | exact ho | (rewrite [jk_row_ne _ _ (by omega)]; first | exact hg | exact ho | rfl))))) (by first | decide | omega | exact jB_01 _) dX13_addsProfile_49 rfl ?_
      refine jk_iconst (q := 51) dX13_addsProfile_50 rfl ?_
      refine jk_iadd (q := 52) dX13_addsProfile_51 rfl ?_
      refine jk_iastR (q := 53) (by first | exact hm.1 | exact hm.2.1 _ _ rfl | assumption) (by first | exact jk_row_same _ _ _ | exact hg | exact ho | (rewrite [jk_row_ne _ _ (by omega)]; first | exact jk_row_same _ _ _ | exact hg | exact ho | (rewrite [jk_row_ne _ _ (by omega)]; first | exact jk_row_same _ _ _ | exact hg | exact ho | (rewrite [jk_row_ne _ _ (by omega)]; first | exact jk_row_same _ _ _ | exact hg | exact ho | (rewrite [jk_row_ne _ _ (by omega)]; first | exact hg | exact ho | rfl))))) (by first | decide | omega | exact jB_01 _) dX13_addsProfile_52 rfl ?_
      rw [jk_set_ne g p (show ¬ ((2 : Int) = 152 + g 2) by omega)]
      refine jk_aload_n (q := 54) dX13_addsProfile_53 rfl rfl ?_
      refine jk_iload_n (q := 55) dX13_addsProfile_54 rfl rfl ?_
      refine jk_cV1p (q := 58) (c_X13_done (O := O) hm (by (try simp only [jk_row_row]); first | exact ho | exact (jk_row_ne _ _ (by omega)).trans ho | exact (jk_row_ne _ _ (by omega)).trans ((jk_row_ne _ _ (by omega)).trans ho))) jm_X13_done jw_1941 rfl (by first | exact hm.1 | exact hm.2.1 _ _ rfl | assumption) rfl rfl rfl dX13_addsProfile_55 rfl ?_
      exact jk_iret rfl dX13_addsProfile_58 (by exact md_q (k := 0) (v := g 2) (g' := jk_set (jk_set g (152 + g 2) p) 2 (g 2 + 1)) (by unfold md_addsProfile; simp [*] <;> omega) (by unfold md_res md_th; simp only [jk_row_row, jk_row_id hg]; try rfl))
    · refine jk_aload_n (q := 27) dX13_addsProfile_26 rfl rfl ?_
      refine jk_iconst (q := 28) dX13_addsProfile_27 rfl ?_
      refine jk_cV1p (q := 31) (c_X13_fails hm (by first | exact ho | exact (jk_row_ne _ _ (by omega)).trans ho)) jm_X13_fails jw_1937 rfl (by first | exact hm.1 | exact hm.2.1 _ _ rfl | assumption) rfl rfl rfl dX13_addsProfile_28 rfl ?_
      exact jk_iret rfl dX13_addsProfile_31 (by exact md_q (k := 2) (v := 0) (g' := g) (by unfold md_addsProfile; simp [*] <;> omega) (by unfold md_res md_th; simp only [jk_row_row, jk_row_id hg]; try rfl))
  · refine jk_aload_n (q := 9) dX13_addsProfile_8 rfl rfl ?_
    refine jk_iconst (q := 10) dX13_addsProfile_9 rfl ?_
    refine jk_cV1p (q := 13) (c_X13_fails hm (by first | exact ho | exact (jk_row_ne _ _ (by omega)).trans ho)) jm_X13_fails jw_1937 rfl (by first | exact hm.1 | exact hm.2.1 _ _ rfl | assumption) rfl rfl rfl dX13_addsProfile_10 rfl ?_
    exact jk_iret rfl dX13_addsProfile_13 (by exact md_q (k := 1) (v := 0) (g' := g) (by unfold md_addsProfile; simp [*] <;> omega) (by unfold md_res md_th; simp only [jk_row_row, jk_row_id hg]; try rfl))
theorem c_X13_addsLine {G : jk_G} {n : Nat} {t : jk_T} {σ : jk_I} {ρ : jk_P} {m : Nat} {g O : Int → Int} {B : Int} {a b f len : Int} (hm : md_at t ρ m) (hg : σ (m + 2) = g) (hi : md_inv B g) (ho : σ m = O) (ha : jk_in a) (hb : jk_in b) (hf : jk_in f) (hlen : jk_in len) : jk_K G yX13_addsLine mX13_addsLine 0 0 [.ref m, jI a, jI b, jI f, jI len] n t σ ρ (jk_q (some (jI (md_addsLine g a b f len).2.1)) n t (md_res σ m O (md_addsLine g a b f len)) ρ) jk_no := by
  refine jk_entryB (ls := [some (.ref m), some (jI a), some (jI b), some (jI f), some (jI len), none]) jm_X13_addsLine.1 rfl rfl rfl ?_
  obtain ⟨i0, i1, i2, i3, -⟩ := id hi
  refine jk_aload_n (q := 1) dX13_addsLine_0 rfl rfl ?_
  refine jk_iload_n (q := 2) dX13_addsLine_1 rfl rfl ?_
  refine jk_cV1p (q := 5) (c_X13_isPoint hm hg hi (by first | assumption)) jm_X13_isPoint jw_1957 rfl (by first | exact hm.1 | exact hm.2.1 _ _ rfl | assumption) rfl rfl rfl dX13_addsLine_2 rfl ?_
  refine jk_ifB_eq (q := 16) (q2 := 8) dX13_addsLine_5 rfl rfl (fun h1 => ?_) (fun h1 => ?_)
  · refine jk_aload_n (q := 17) dX13_addsLine_16 rfl rfl ?_
    refine jk_iconst (q := 18) dX13_addsLine_17 rfl ?_
    refine jk_cV1p (q := 21) (c_X13_fails hm (by first | exact ho | exact (jk_row_ne _ _ (by omega)).trans ho)) jm_X13_fails jw_1937 rfl (by first | exact hm.1 | exact hm.2.1 _ _ rfl | assumption) rfl rfl rfl dX13_addsLine_18 rfl ?_
    exact jk_iret rfl dX13_addsLine_21 (by exact md_q (k := 1) (v := 0) (g' := g) (by unfold md_addsLine; simp [*] <;> omega) (by unfold md_res md_th; simp only [jk_row_row, jk_row_id hg]; try rfl))
  · refine jk_aload_n (q := 9) dX13_addsLine_8 rfl rfl ?_
    refine jk_iload_n (q := 10) dX13_addsLine_9 rfl rfl ?_
    refine jk_cV1p (q := 13) (c_X13_isPoint hm hg hi (by first | assumption)) jm_X13_isPoint jw_1957 rfl (by first | exact hm.1 | exact hm.2.1 _ _ rfl | assumption) rfl rfl rfl dX13_addsLine_10 rfl ?_
    refine jk_ifB_ne (q := 22) (q2 := 16) dX13_addsLine_13 rfl rfl (fun h2 => ?_) (fun h2 => ?_)
    · refine jk_iload_n (q := 23) dX13_addsLine_22 rfl rfl ?_
      refine jk_iload_n (q := 24) dX13_addsLine_23 rfl rfl ?_
      refine jk_icmp_eq (q := 51) (q2 := 27) dX13_addsLine_24 rfl rfl (by first | decide | omega | exact jB_01 _) (by first | decide | omega | exact jB_01 _) (fun h3 => ?_) (fun h3 => ?_)
      · refine jk_aload_n (q := 52) dX13_addsLine_51 rfl rfl ?_
        refine jk_iconst (q := 53) dX13_addsLine_52 rfl ?_
        refine jk_cV1p (q := 56) (c_X13_fails hm (by first | exact ho | exact (jk_row_ne _ _ (by omega)).trans ho)) jm_X13_fails jw_1937 rfl (by first | exact hm.1 | exact hm.2.1 _ _ rfl | assumption) rfl rfl rfl dX13_addsLine_53 rfl ?_
        exact jk_iret rfl dX13_addsLine_56 (by exact md_q (k := 2) (v := 0) (g' := g) (by unfold md_addsLine; simp [*] <;> omega) (by unfold md_res md_th; simp only [jk_row_row, jk_row_id hg]; try rfl))
      · refine jk_iload_n (q := 28) dX13_addsLine_27 rfl rfl ?_
        refine jk_sipush (q := 31) (y := -9999) dX13_addsLine_28 rfl (by decide) ?_
        refine jk_sipush (q := 34) (y := 9999) dX13_addsLine_31 rfl (by decide) ?_
        refine jk_cS3p (q := 37) (c_X13_in (by assumption) (by decide) (by decide)) jm_X13_in jw_1961 rfl rfl rfl dX13_addsLine_34 rfl ?_
        refine jk_ifB_eq (q := 51) (q2 := 40) dX13_addsLine_37 rfl rfl (fun h4 => ?_) (fun h4 => ?_)
        · refine jk_aload_n (q := 52) dX13_addsLine_51 rfl rfl ?_
          refine jk_iconst (q := 53) dX13_addsLine_52 rfl ?_
          refine jk_cV1p (q := 56) (c_X13_fails hm (by first | exact ho | exact (jk_row_ne _ _ (by omega)).trans ho)) jm_X13_fails jw_1937 rfl (by first | exact hm.1 | exact hm.2.1 _ _ rfl | assumption) rfl rfl rfl dX13_addsLine_53 rfl ?_
          exact jk_iret rfl dX13_addsLine_56 (by exact md_q (k := 2) (v := 0) (g' := g) (by unfold md_addsLine; simp [*] <;> omega) (by unfold md_res md_th; simp only [jk_row_row, jk_row_id hg]; try rfl))
        · refine jk_iload (q := 42) dX13_addsLine_40 rfl rfl ?_
          refine jk_iconst (q := 43) dX13_addsLine_42 rfl ?_
          refine jk_bipush (q := 45) (y := 50) dX13_addsLine_43 rfl (by decide) ?_
          refine jk_cS3p (q := 48) (c_X13_in (by assumption) (by decide) (by decide)) jm_X13_in jw_1961 rfl rfl rfl dX13_addsLine_45 rfl ?_
          refine jk_ifB_ne (q := 57) (q2 := 51) dX13_addsLine_48 rfl rfl (fun h5 => ?_) (fun h5 => ?_)
          · refine jk_aload_n (q := 58) dX13_addsLine_57 rfl rfl ?_
            refine jk_getA (q := 61) (k := 13) 0 0 rfl (by first | exact hm.1 | exact hm.2.1 _ _ rfl | assumption) (by first | exact hm.2.2 _ _ rfl | assumption) rfl rfl jw_1848 dX13_addsLine_58 rfl ?_
            refine jk_iconst (q := 62) dX13_addsLine_61 rfl ?_
            refine jk_ialdR (q := 63) (by first | exact hm.1 | exact hm.2.1 _ _ rfl | assumption) (by first | exact jk_row_same _ _ _ | exact hg | exact ho | (rewrite [jk_row_ne _ _ (by omega)]; first | exact jk_row_same _ _ _ | exact hg | exact ho | (rewrite [jk_row_ne _ _ (by omega)]; first | exact jk_row_same _ _ _ | exact hg | exact ho | (rewrite [jk_row_ne _ _ (by omega)]; first | exact jk_row_same _ _ _ | exact hg | exact ho | (rewrite [jk_row_ne _ _ (by omega)]; first | exact hg | exact ho | rfl))))) (by first | decide | omega | exact jB_01 _) dX13_addsLine_62 rfl ?_
            refine jk_istore5 (q := 65) dX13_addsLine_63 rfl rfl rfl ?_
            refine jk_iload (q := 67) dX13_addsLine_65 rfl rfl ?_
            refine jk_bipush (q := 69) (y := 16) dX13_addsLine_67 rfl (by decide) ?_
            refine jk_icmp_ne (q := 78) (q2 := 72) dX13_addsLine_69 rfl rfl (by first | decide | omega | exact jB_01 _) (by first | decide | omega | exact jB_01 _) (fun h6 => ?_) (fun h6 => ?_)
            · refine jk_aload_n (q := 79) dX13_addsLine_78 rfl rfl ?_
              refine jk_getA (q := 82) (k := 13) 0 0 rfl (by first | exact hm.1 | exact hm.2.1 _ _ rfl | assumption) (by first | exact hm.2.2 _ _ rfl | assumption) rfl rfl jw_1848 dX13_addsLine_79 rfl ?_
              refine jk_bipush (q := 84) (y := 24) dX13_addsLine_82 rfl (by decide) ?_
              refine jk_iload (q := 86) dX13_addsLine_84 rfl rfl ?_
              refine jk_iadd (q := 87) dX13_addsLine_86 rfl ?_
              refine jk_iload_n (q := 88) dX13_addsLine_87 rfl rfl ?_
              refine jk_iastR (q := 89) (by first | exact hm.1 | exact hm.2.1 _ _ rfl | assumption) (by first | exact jk_row_same _ _ _ | exact hg | exact ho | (rewrite [jk_row_ne _ _ (by omega)]; first | exact jk_row_same _ _ _ | exact hg | exact ho | (rewrite [jk_row_ne _ _ (by omega)]; first | exact jk_row_same _ _ _ | exact hg | exact ho | (rewrite [jk_row_ne _ _ (by omega)]; first | exact jk_row_same _ _ _ | exact hg | exact ho | (rewrite [jk_row_ne _ _ (by omega)]; first | exact hg | exact ho | rfl))))) (by first | decide | omega | exact jB_01 _) dX13_addsLine_88 rfl ?_
              refine jk_aload_n (q := 90) dX13_addsLine_89 rfl rfl ?_
              refine jk_getA (q := 93) (k := 13) 0 0 rfl (by first | exact hm.1 | exact hm.2.1 _ _ rfl | assumption) (by first | exact hm.2.2 _ _ rfl | assumption) rfl rfl jw_1848 dX13_addsLine_90 rfl ?_
              refine jk_bipush (q := 95) (y := 40) dX13_addsLine_93 rfl (by decide) ?_
              refine jk_iload (q := 97) dX13_addsLine_95 rfl rfl ?_
              refine jk_iadd (q := 98) dX13_addsLine_97 rfl ?_
              refine jk_iload_n (q := 99) dX13_addsLine_98 rfl rfl ?_
              refine jk_iastR (q := 100) (by first | exact hm.1 | exact hm.2.1 _ _ rfl | assumption) (by first | exact jk_row_same _ _ _ | exact hg | exact ho | (rewrite [jk_row_ne _ _ (by omega)]; first | exact jk_row_same _ _ _ | exact hg | exact ho | (rewrite [jk_row_ne _ _ (by omega)]; first | exact jk_row_same _ _ _ | exact hg | exact ho | (rewrite [jk_row_ne _ _ (by omega)]; first | exact jk_row_same _ _ _ | exact hg | exact ho | (rewrite [jk_row_ne _ _ (by omega)]; first | exact hg | exact ho | rfl))))) (by first | decide | omega | exact jB_01 _) dX13_addsLine_99 rfl ?_
              refine jk_aload_n (q := 101) dX13_addsLine_100 rfl rfl ?_
              refine jk_getA (q := 104) (k := 13) 0 0 rfl (by first | exact hm.1 | exact hm.2.1 _ _ rfl | assumption) (by first | exact hm.2.2 _ _ rfl | assumption) rfl rfl jw_1848 dX13_addsLine_101 rfl ?_
              refine jk_bipush (q := 106) (y := 72) dX13_addsLine_104 rfl (by decide) ?_
              refine jk_iload (q := 108) dX13_addsLine_106 rfl rfl ?_
              refine jk_iadd (q := 109) dX13_addsLine_108 rfl ?_
              refine jk_iload_n (q := 110) dX13_addsLine_109 rfl rfl ?_
              refine jk_iastR (q := 111) (by first | exact hm.1 | exact hm.2.1 _ _ rfl | assumption) (by first | exact jk_row_same _ _ _ | exact hg | exact ho | (rewrite [jk_row_ne _ _ (by omega)]; first | exact jk_row_same _ _ _ | exact hg | exact ho | (rewrite [jk_row_ne _ _ (by omega)]; first | exact jk_row_same _ _ _ | exact hg | exact ho | (rewrite [jk_row_ne _ _ (by omega)]; first | exact jk_row_same _ _ _ | exact hg | exact ho | (rewrite [jk_row_ne _ _ (by omega)]; first | exact hg | exact ho | rfl))))) (by first | decide | omega | exact jB_01 _) dX13_addsLine_110 rfl ?_
              refine jk_aload_n (q := 112) dX13_addsLine_111 rfl rfl ?_
              refine jk_getA (q := 115) (k := 13) 0 0 rfl (by first | exact hm.1 | exact hm.2.1 _ _ rfl | assumption) (by first | exact hm.2.2 _ _ rfl | assumption) rfl rfl jw_1848 dX13_addsLine_112 rfl ?_
              refine jk_bipush (q := 117) (y := 56) dX13_addsLine_115 rfl (by decide) ?_
              refine jk_iload (q := 119) dX13_addsLine_117 rfl rfl ?_
              refine jk_iadd (q := 120) dX13_addsLine_119 rfl ?_
              refine jk_iload (q := 122) dX13_addsLine_120 rfl rfl ?_
              refine jk_iastR (q := 123) (by first | exact hm.1 | exact hm.2.1 _ _ rfl | assumption) (by first | exact jk_row_same _ _ _ | exact hg | exact ho | (rewrite [jk_row_ne _ _ (by omega)]; first | exact jk_row_same _ _ _ | exact hg | exact ho | (rewrite [jk_row_ne _ _ (by omega)]; first | exact jk_row_same _ _ _ | exact hg | exact ho | (rewrite [jk_row_ne _ _ (by omega)]; first | exact jk_row_same _ _ _ | exact hg | exact ho | (rewrite [jk_row_ne _ _ (by omega)]; first | exact hg | exact ho | rfl))))) (by first | decide | omega | exact jB_01 _) dX13_addsLine_122 rfl ?_
              refine jk_aload_n (q := 124) dX13_addsLine_123 rfl rfl ?_
              refine jk_getA (q := 127) (k := 13) 0 0 rfl (by first | exact hm.1 | exact hm.2.1 _ _ rfl | assumption) (by first | exact hm.2.2 _ _ rfl | assumption) rfl rfl jw_1848 dX13_addsLine_124 rfl ?_
              refine jk_iconst (q := 128) dX13_addsLine_127 rfl ?_
              refine jk_dup2 (q := 129) dX13_addsLine_128 rfl rfl rfl ?_
              refine jk_ialdR (q := 130) (by first | exact hm.1 | exact hm.2.1 _ _ rfl | assumption) (by first | exact jk_row_same _ _ _ | exact hg | exact ho | (rewrite [jk_row_ne _ _ (by omega)]; first | exact jk_row_same _ _ _ | exact hg | exact ho | (rewrite [jk_row_ne _ _ (by omega)]; first | exact jk_row_same _ _ _ | exact hg | exact ho | (rewrite [jk_row_ne _ _ (by omega)]; first | exact jk_row_same _ _ _ | exact hg | exact ho | (rewrite [jk_row_ne _ _ (by omega)]; first | exact hg | exact ho | rfl))))) (by first | decide | omega | exact jB_01 _) dX13_addsLine_129 rfl ?_
              refine jk_iconst (q := 131) dX13_addsLine_130 rfl ?_
              refine jk_iadd (q := 132) dX13_addsLine_131 rfl ?_
              refine jk_iastR (q := 133) (by first | exact hm.1 | exact hm.2.1 _ _ rfl | assumption) (by first | exact jk_row_same _ _ _ | exact hg | exact ho | (rewrite [jk_row_ne _ _ (by omega)]; first | exact jk_row_same _ _ _ | exact hg | exact ho | (rewrite [jk_row_ne _ _ (by omega)]; first | exact jk_row_same _ _ _ | exact hg | exact ho | (rewrite [jk_row_ne _ _ (by omega)]; first | exact jk_row_same _ _ _ | exact hg | exact ho | (rewrite [jk_row_ne _ _ (by omega)]; first | exact hg | exact ho | rfl))))) (by first | decide | omega | exact jB_01 _) dX13_addsLine_132 rfl ?_
              rw [jk_set_ne _ len (show ¬ ((1 : Int) = 56 + g 1) by omega), jk_set_ne _ f (show ¬ ((1 : Int) = 72 + g 1) by omega), jk_set_ne _ b (show ¬ ((1 : Int) = 40 + g 1) by omega), jk_set_ne _ a (show ¬ ((1 : Int) = 24 + g 1) by omega)]
              refine jk_aload_n (q := 134) dX13_addsLine_133 rfl rfl ?_
              refine jk_iload (q := 136) dX13_addsLine_134 rfl rfl ?_
              refine jk_cV1p (q := 139) (c_X13_done (O := O) hm (by (try simp only [jk_row_row]); first | exact ho | exact (jk_row_ne _ _ (by omega)).trans ho | exact (jk_row_ne _ _ (by omega)).trans ((jk_row_ne _ _ (by omega)).trans ho))) jm_X13_done jw_1941 rfl (by first | exact hm.1 | exact hm.2.1 _ _ rfl | assumption) rfl rfl rfl dX13_addsLine_136 rfl ?_
              exact jk_iret rfl dX13_addsLine_139 (by exact md_q (k := 0) (v := g 1) (g' := jk_set (jk_set (jk_set (jk_set (jk_set g (24 + g 1) a) (40 + g 1) b) (72 + g 1) f) (56 + g 1) len) 1 (g 1 + 1)) (by unfold md_addsLine; simp [*] <;> omega) (by unfold md_res md_th; simp only [jk_row_row, jk_row_id hg]; try rfl))
            · refine jk_aload_n (q := 73) dX13_addsLine_72 rfl rfl ?_
              refine jk_iconst (q := 74) dX13_addsLine_73 rfl ?_
              refine jk_cV1p (q := 77) (c_X13_fails hm (by first | exact ho | exact (jk_row_ne _ _ (by omega)).trans ho)) jm_X13_fails jw_1937 rfl (by first | exact hm.1 | exact hm.2.1 _ _ rfl | assumption) rfl rfl rfl dX13_addsLine_74 rfl ?_
              exact jk_iret rfl dX13_addsLine_77 (by exact md_q (k := 3) (v := 0) (g' := g) (by unfold md_addsLine; simp [*] <;> omega) (by unfold md_res md_th; simp only [jk_row_row, jk_row_id hg]; try rfl))
          · refine jk_aload_n (q := 52) dX13_addsLine_51 rfl rfl ?_
            refine jk_iconst (q := 53) dX13_addsLine_52 rfl ?_
            refine jk_cV1p (q := 56) (c_X13_fails hm (by first | exact ho | exact (jk_row_ne _ _ (by omega)).trans ho)) jm_X13_fails jw_1937 rfl (by first | exact hm.1 | exact hm.2.1 _ _ rfl | assumption) rfl rfl rfl dX13_addsLine_53 rfl ?_
            exact jk_iret rfl dX13_addsLine_56 (by exact md_q (k := 2) (v := 0) (g' := g) (by unfold md_addsLine; simp [*] <;> omega) (by unfold md_res md_th; simp only [jk_row_row, jk_row_id hg]; try rfl))
    · refine jk_aload_n (q := 17) dX13_addsLine_16 rfl rfl ?_
      refine jk_iconst (q := 18) dX13_addsLine_17 rfl ?_
      refine jk_cV1p (q := 21) (c_X13_fails hm (by first | exact ho | exact (jk_row_ne _ _ (by omega)).trans ho)) jm_X13_fails jw_1937 rfl (by first | exact hm.1 | exact hm.2.1 _ _ rfl | assumption) rfl rfl rfl dX13_addsLine_18 rfl ?_
      exact jk_iret rfl dX13_addsLine_21 (by exact md_q (k := 1) (v := 0) (g' := g) (by unfold md_addsLine; simp [*] <;> omega) (by unfold md_res md_th; simp only [jk_row_row, jk_row_id hg]; try rfl))
theorem c_X13_addsRun {G : jk_G} {n : Nat} {t : jk_T} {σ : jk_I} {ρ : jk_P} {m : Nat} {g O : Int → Int} {B : Int} {l b : Int} (hm : md_at t ρ m) (hg : σ (m + 2) = g) (hi : md_inv B g) (ho : σ m = O) (hl : jk_in l) (hb : jk_in b) : jk_K G yX13_addsRun mX13_addsRun 0 0 [.ref m, jI l, jI b] n t σ ρ (jk_q (some (jI (md_addsRun g l b).2.1)) n t (md_res σ m O (md_addsRun g l b)) ρ) jk_no := by
  refine jk_entryB (ls := [some (.ref m), some (jI l), some (jI b)]) jm_X13_addsRun.1 rfl rfl rfl ?_
  obtain ⟨i0, i1, i2, i3, -⟩ := id hi
  refine jk_aload_n (q := 1) dX13_addsRun_0 rfl rfl ?_
  refine jk_iload_n (q := 2) dX13_addsRun_1 rfl rfl ?_
  refine jk_cV1p (q := 5) (c_X13_isLine hm hg hi (by first | assumption)) jm_X13_isLine jw_1990 rfl (by first | exact hm.1 | exact hm.2.1 _ _ rfl | assumption) rfl rfl rfl dX13_addsRun_2 rfl ?_
  refine jk_ifB_ne (q := 14) (q2 := 8) dX13_addsRun_5 rfl rfl (fun h1 => ?_) (fun h1 => ?_)
  · refine jk_iload_n (q := 15) dX13_addsRun_14 rfl rfl ?_
    refine jk_sipush (q := 18) (y := -9999) dX13_addsRun_15 rfl (by decide) ?_
    refine jk_sipush (q := 21) (y := 9999) dX13_addsRun_18 rfl (by decide) ?_
    refine jk_cS3p (q := 24) (c_X13_in (by assumption) (by decide) (by decide)) jm_X13_in jw_1961 rfl rfl rfl dX13_addsRun_21 rfl ?_
    refine jk_ifB_ne (q := 33) (q2 := 27) dX13_addsRun_24 rfl rfl (fun h2 => ?_) (fun h2 => ?_)
    · have hp2 := md_inT (by assumption : md_in l 0 (g 1 - 1) = true)
      obtain ⟨l1, l2, l3, l4, l5, l6, l7, l8⟩ := md_inv_ln hi (l := l) ⟨by omega, by omega⟩
      refine jk_aload_n (q := 34) dX13_addsRun_33 rfl rfl ?_
      refine jk_getA (q := 37) (k := 13) 0 0 rfl (by first | exact hm.1 | exact hm.2.1 _ _ rfl | assumption) (by first | exact hm.2.2 _ _ rfl | assumption) rfl rfl jw_1848 dX13_addsRun_34 rfl ?_
      refine jk_bipush (q := 39) (y := 88) dX13_addsRun_37 rfl (by decide) ?_
      refine jk_iload_n (q := 40) dX13_addsRun_39 rfl rfl ?_
      refine jk_iadd (q := 41) dX13_addsRun_40 rfl ?_
      refine jk_ialdR (q := 42) (by first | exact hm.1 | exact hm.2.1 _ _ rfl | assumption) (by first | exact jk_row_same _ _ _ | exact hg | exact ho | (rewrite [jk_row_ne _ _ (by omega)]; first | exact jk_row_same _ _ _ | exact hg | exact ho | (rewrite [jk_row_ne _ _ (by omega)]; first | exact jk_row_same _ _ _ | exact hg | exact ho | (rewrite [jk_row_ne _ _ (by omega)]; first | exact jk_row_same _ _ _ | exact hg | exact ho | (rewrite [jk_row_ne _ _ (by omega)]; first | exact hg | exact ho | rfl))))) (by first | decide | omega | exact jB_01 _) dX13_addsRun_41 rfl ?_
      refine jk_iconst (q := 43) dX13_addsRun_42 rfl ?_
      refine jk_icmp_ne (q := 52) (q2 := 46) dX13_addsRun_43 rfl rfl (by first | decide | omega | exact jB_01 _) (by first | decide | omega | exact jB_01 _) (fun h3 => ?_) (fun h3 => ?_)
      · refine jk_aload_n (q := 53) dX13_addsRun_52 rfl rfl ?_
        refine jk_getA (q := 56) (k := 13) 0 0 rfl (by first | exact hm.1 | exact hm.2.1 _ _ rfl | assumption) (by first | exact hm.2.2 _ _ rfl | assumption) rfl rfl jw_1848 dX13_addsRun_53 rfl ?_
        refine jk_bipush (q := 58) (y := 88) dX13_addsRun_56 rfl (by decide) ?_
        refine jk_iload_n (q := 59) dX13_addsRun_58 rfl rfl ?_
        refine jk_iadd (q := 60) dX13_addsRun_59 rfl ?_
        refine jk_iconst (q := 61) dX13_addsRun_60 rfl ?_
        refine jk_iastR (q := 62) (by first | exact hm.1 | exact hm.2.1 _ _ rfl | assumption) (by first | exact jk_row_same _ _ _ | exact hg | exact ho | (rewrite [jk_row_ne _ _ (by omega)]; first | exact jk_row_same _ _ _ | exact hg | exact ho | (rewrite [jk_row_ne _ _ (by omega)]; first | exact jk_row_same _ _ _ | exact hg | exact ho | (rewrite [jk_row_ne _ _ (by omega)]; first | exact jk_row_same _ _ _ | exact hg | exact ho | (rewrite [jk_row_ne _ _ (by omega)]; first | exact hg | exact ho | rfl))))) (by first | decide | omega | exact jB_01 _) dX13_addsRun_61 rfl ?_
        refine jk_aload_n (q := 63) dX13_addsRun_62 rfl rfl ?_
        refine jk_getA (q := 66) (k := 13) 0 0 rfl (by first | exact hm.1 | exact hm.2.1 _ _ rfl | assumption) (by first | exact hm.2.2 _ _ rfl | assumption) rfl rfl jw_1848 dX13_addsRun_63 rfl ?_
        refine jk_bipush (q := 68) (y := 104) dX13_addsRun_66 rfl (by decide) ?_
        refine jk_iload_n (q := 69) dX13_addsRun_68 rfl rfl ?_
        refine jk_iadd (q := 70) dX13_addsRun_69 rfl ?_
        refine jk_iload_n (q := 71) dX13_addsRun_70 rfl rfl ?_
        refine jk_iastR (q := 72) (by first | exact hm.1 | exact hm.2.1 _ _ rfl | assumption) (by first | exact jk_row_same _ _ _ | exact hg | exact ho | (rewrite [jk_row_ne _ _ (by omega)]; first | exact jk_row_same _ _ _ | exact hg | exact ho | (rewrite [jk_row_ne _ _ (by omega)]; first | exact jk_row_same _ _ _ | exact hg | exact ho | (rewrite [jk_row_ne _ _ (by omega)]; first | exact jk_row_same _ _ _ | exact hg | exact ho | (rewrite [jk_row_ne _ _ (by omega)]; first | exact hg | exact ho | rfl))))) (by first | decide | omega | exact jB_01 _) dX13_addsRun_71 rfl ?_
        refine jk_aload_n (q := 73) dX13_addsRun_72 rfl rfl ?_
        refine jk_aload_n (q := 74) dX13_addsRun_73 rfl rfl ?_
        refine jk_iload_n (q := 75) dX13_addsRun_74 rfl rfl ?_
        refine jk_cV1p (q := 78) (c_X13_gapOf (g := md_runG g l b) hm (by simp only [jk_row_row]; exact jk_row_same _ _ _) ⟨by omega, by omega⟩) jm_X13_gapOf jw_1994 rfl (by first | exact hm.1 | exact hm.2.1 _ _ rfl | assumption) rfl rfl rfl dX13_addsRun_75 rfl ?_
        refine jk_cV1p (q := 81) (c_X13_done (O := O) hm (by (try simp only [jk_row_row]); first | exact ho | exact (jk_row_ne _ _ (by omega)).trans ho | exact (jk_row_ne _ _ (by omega)).trans ((jk_row_ne _ _ (by omega)).trans ho))) jm_X13_done jw_1941 rfl (by first | exact hm.1 | exact hm.2.1 _ _ rfl | assumption) rfl rfl rfl dX13_addsRun_78 rfl ?_
        exact jk_iret rfl dX13_addsRun_81 (by exact md_q (k := 0) (v := md_gap (md_runG g l b) l) (g' := md_runG g l b) (by unfold md_addsRun; simp only [md_runG]; simp [*] <;> omega) (by unfold md_res md_th; simp only [jk_row_row, jk_row_id hg]; try rfl))
      · refine jk_aload_n (q := 47) dX13_addsRun_46 rfl rfl ?_
        refine jk_iconst (q := 48) dX13_addsRun_47 rfl ?_
        refine jk_cV1p (q := 51) (c_X13_fails hm (by first | exact ho | exact (jk_row_ne _ _ (by omega)).trans ho)) jm_X13_fails jw_1937 rfl (by first | exact hm.1 | exact hm.2.1 _ _ rfl | assumption) rfl rfl rfl dX13_addsRun_48 rfl ?_
        exact jk_iret rfl dX13_addsRun_51 (by exact md_q (k := 3) (v := 0) (g' := g) (by unfold md_addsRun; simp only [md_runG]; simp [*] <;> omega) (by unfold md_res md_th; simp only [jk_row_row, jk_row_id hg]; try rfl))
    · refine jk_aload_n (q := 28) dX13_addsRun_27 rfl rfl ?_
      refine jk_iconst (q := 29) dX13_addsRun_28 rfl ?_
      refine jk_cV1p (q := 32) (c_X13_fails hm (by first | exact ho | exact (jk_row_ne _ _ (by omega)).trans ho)) jm_X13_fails jw_1937 rfl (by first | exact hm.1 | exact hm.2.1 _ _ rfl | assumption) rfl rfl rfl dX13_addsRun_29 rfl ?_
      exact jk_iret rfl dX13_addsRun_32 (by exact md_q (k := 2) (v := 0) (g' := g) (by unfold md_addsRun; simp only [md_runG]; simp [*] <;> omega) (by unfold md_res md_th; simp only [jk_row_row, jk_row_id hg]; try rfl))
  · refine jk_aload_n (q := 9) dX13_addsRun_8 rfl rfl ?_
    refine jk_iconst (q := 10) dX13_addsRun_9 rfl ?_
    refine jk_cV1p (q := 13) (c_X13_fails hm (by first | exact ho | exact (jk_row_ne _ _ (by omega)).trans ho)) jm_X13_fails jw_1937 rfl (by first | exact hm.1 | exact hm.2.1 _ _ rfl | assumption) rfl rfl rfl dX13_addsRun_10 rfl ?_
    exact jk_iret rfl dX13_addsRun_13 (by exact md_q (k := 1) (v := 0) (g' := g) (by unfold md_addsRun; simp only [md_runG]; simp [*] <;> omega) (by unfold md_res md_th; simp only [jk_row_row, jk_row_id hg]; try rfl))
theorem md_inv_ex {B : Int} {g : Int → Int} (hi : md_inv B g) {l x : Int} (hl : 0 ≤ l ∧ l < 16) (hx : x = 0 ∨ x = 1) : md_inv B (jk_set g (120 + l) x) := by
  obtain ⟨a, b, c, d, e, f, k, q, r⟩ := hi
  refine ⟨?_, ?_, ?_, ?_, fun p hp => ?_, fun j hj => ?_, k, fun i hi => ?_, fun i hi => ?_⟩
  · rw [jk_set_ne _ _ (by omega)]; exact a
  · rw [jk_set_ne _ _ (by omega)]; exact b
  · rw [jk_set_ne _ _ (by omega)]; exact c
  · rw [jk_set_ne _ _ (by omega)]; exact d
  · unfold md_ptf; rw [jk_set_ne _ _ (by omega), jk_set_ne _ _ (by omega)]; exact e p hp
  · have := f j hj
    unfold md_lnf at this ⊢
    rw [jk_set_ne g x (show ¬ (24 + j = 120 + l) by omega), jk_set_ne g x (show ¬ (40 + j = 120 + l) by omega), jk_set_ne g x (show ¬ (56 + j = 120 + l) by omega), jk_set_ne g x (show ¬ (72 + j = 120 + l) by omega), jk_set_ne g x (show ¬ (88 + j = 120 + l) by omega), jk_set_ne g x (show ¬ (104 + j = 120 + l) by omega), jk_set_ne g x (show ¬ (136 + j = 120 + l) by omega)]
    refine ⟨this.1, this.2.1, this.2.2.1, this.2.2.2.1, this.2.2.2.2.1, this.2.2.2.2.2.1, ?_, this.2.2.2.2.2.2.2⟩
    unfold jk_set
    split
    · exact hx
    · exact this.2.2.2.2.2.2.1
  · rw [jk_set_ne _ _ (by omega), jk_set_ne _ _ (by omega)]; exact q i hi
  · rw [jk_set_ne _ _ (by omega)]; exact r i hi
theorem c_X13_marks {G : jk_G} {n : Nat} {t : jk_T} {σ : jk_I} {ρ : jk_P} {m : Nat} {g O : Int → Int} {B : Int} {l w : Int} (hm : md_at t ρ m) (hg : σ (m + 2) = g) (hi : md_inv B g) (ho : σ m = O) (hl : jk_in l) (hw : w = 0 ∨ w = 1) : jk_K G yX13_marks mX13_marks 0 0 [.ref m, jI l, jI w] n t σ ρ (jk_q (some (jI (md_marks g l w).2.1)) n t (md_res σ m O (md_marks g l w)) ρ) jk_no := by
  refine jk_entryB (ls := [some (.ref m), some (jI l), some (jI w)]) jm_X13_marks.1 rfl rfl rfl ?_
  obtain ⟨i0, i1, i2, i3, -⟩ := id hi
  refine jk_aload_n (q := 1) dX13_marks_0 rfl rfl ?_
  refine jk_iload_n (q := 2) dX13_marks_1 rfl rfl ?_
  refine jk_cV1p (q := 5) (c_X13_isLine hm hg hi (by first | assumption)) jm_X13_isLine jw_1990 rfl (by first | exact hm.1 | exact hm.2.1 _ _ rfl | assumption) rfl rfl rfl dX13_marks_2 rfl ?_
  refine jk_ifB_ne (q := 14) (q2 := 8) dX13_marks_5 rfl rfl (fun h1 => ?_) (fun h1 => ?_)
  · have hp2 := md_inT (by assumption : md_in l 0 (g 1 - 1) = true)
    obtain ⟨l1, l2, l3, l4, l5, l6, l7, l8⟩ := md_inv_ln hi (l := l) ⟨by omega, by omega⟩
    refine jk_aload_n (q := 15) dX13_marks_14 rfl rfl ?_
    refine jk_getA (q := 18) (k := 13) 0 0 rfl (by first | exact hm.1 | exact hm.2.1 _ _ rfl | assumption) (by first | exact hm.2.2 _ _ rfl | assumption) rfl rfl jw_1848 dX13_marks_15 rfl ?_
    refine jk_bipush (q := 20) (y := 120) dX13_marks_18 rfl (by decide) ?_
    refine jk_iload_n (q := 21) dX13_marks_20 rfl rfl ?_
    refine jk_iadd (q := 22) dX13_marks_21 rfl ?_
    refine jk_ialdR (q := 23) (by first | exact hm.1 | exact hm.2.1 _ _ rfl | assumption) (by first | exact jk_row_same _ _ _ | exact hg | exact ho | (rewrite [jk_row_ne _ _ (by omega)]; first | exact jk_row_same _ _ _ | exact hg | exact ho | (rewrite [jk_row_ne _ _ (by omega)]; first | exact jk_row_same _ _ _ | exact hg | exact ho | (rewrite [jk_row_ne _ _ (by omega)]; first | exact jk_row_same _ _ _ | exact hg | exact ho | (rewrite [jk_row_ne _ _ (by omega)]; first | exact hg | exact ho | rfl))))) (by first | decide | omega | exact jB_01 _) dX13_marks_22 rfl ?_
    refine jk_iload_n (q := 24) dX13_marks_23 rfl rfl ?_
    refine jk_icmp_eq (q := 33) (q2 := 27) dX13_marks_24 rfl rfl (by first | decide | omega | exact jB_01 _) (by first | decide | omega | exact jB_01 _) (fun h2 => ?_) (fun h2 => ?_)
    · refine jk_aload_n (q := 34) dX13_marks_33 rfl rfl ?_
      refine jk_getA (q := 37) (k := 13) 0 0 rfl (by first | exact hm.1 | exact hm.2.1 _ _ rfl | assumption) (by first | exact hm.2.2 _ _ rfl | assumption) rfl rfl jw_1848 dX13_marks_34 rfl ?_
      refine jk_bipush (q := 39) (y := 120) dX13_marks_37 rfl (by decide) ?_
      refine jk_iload_n (q := 40) dX13_marks_39 rfl rfl ?_
      refine jk_iadd (q := 41) dX13_marks_40 rfl ?_
      refine jk_iconst (q := 42) dX13_marks_41 rfl ?_
      refine jk_iload_n (q := 43) dX13_marks_42 rfl rfl ?_
      refine jk_isub (q := 44) dX13_marks_43 rfl ?_
      refine jk_iastR (q := 45) (by first | exact hm.1 | exact hm.2.1 _ _ rfl | assumption) (by first | exact jk_row_same _ _ _ | exact hg | exact ho | (rewrite [jk_row_ne _ _ (by omega)]; first | exact jk_row_same _ _ _ | exact hg | exact ho | (rewrite [jk_row_ne _ _ (by omega)]; first | exact jk_row_same _ _ _ | exact hg | exact ho | (rewrite [jk_row_ne _ _ (by omega)]; first | exact jk_row_same _ _ _ | exact hg | exact ho | (rewrite [jk_row_ne _ _ (by omega)]; first | exact hg | exact ho | rfl))))) (by first | decide | omega | exact jB_01 _) dX13_marks_44 rfl ?_
      refine jk_aload_n (q := 46) dX13_marks_45 rfl rfl ?_
      refine jk_aload_n (q := 47) dX13_marks_46 rfl rfl ?_
      refine jk_cV0p (q := 50) (c_X13_goodOnes (B := B) (g := jk_set g (120 + l) (1 - w)) hm (jk_row_same _ _ _) (md_inv_ex hi ⟨by omega, by omega⟩ (by omega))) jm_X13_goodOnes jw_2006 rfl (by first | exact hm.1 | exact hm.2.1 _ _ rfl | assumption) rfl rfl rfl dX13_marks_47 rfl ?_
      refine jk_cV1p (q := 53) (c_X13_done (O := O) hm (by (try simp only [jk_row_row]); first | exact ho | exact (jk_row_ne _ _ (by omega)).trans ho | exact (jk_row_ne _ _ (by omega)).trans ((jk_row_ne _ _ (by omega)).trans ho))) jm_X13_done jw_1941 rfl (by first | exact hm.1 | exact hm.2.1 _ _ rfl | assumption) rfl rfl rfl dX13_marks_50 rfl ?_
      exact jk_iret rfl dX13_marks_53 (by exact md_q (k := 0) (v := md_goods (jk_set g (120 + l) (1 - w))) (g' := jk_set g (120 + l) (1 - w)) (by unfold md_marks; simp [*] <;> omega) (by unfold md_res md_th; simp only [jk_row_row, jk_row_id hg]; try rfl))
    · refine jk_aload_n (q := 28) dX13_marks_27 rfl rfl ?_
      refine jk_iconst (q := 29) dX13_marks_28 rfl ?_
      refine jk_cV1p (q := 32) (c_X13_fails hm (by first | exact ho | exact (jk_row_ne _ _ (by omega)).trans ho)) jm_X13_fails jw_1937 rfl (by first | exact hm.1 | exact hm.2.1 _ _ rfl | assumption) rfl rfl rfl dX13_marks_29 rfl ?_
      exact jk_iret rfl dX13_marks_32 (by exact md_q (k := 2) (v := 0) (g' := g) (by unfold md_marks; simp [*] <;> omega) (by unfold md_res md_th; simp only [jk_row_row, jk_row_id hg]; try rfl))
  · refine jk_aload_n (q := 9) dX13_marks_8 rfl rfl ?_
    refine jk_iconst (q := 10) dX13_marks_9 rfl ?_
    refine jk_cV1p (q := 13) (c_X13_fails hm (by first | exact ho | exact (jk_row_ne _ _ (by omega)).trans ho)) jm_X13_fails jw_1937 rfl (by first | exact hm.1 | exact hm.2.1 _ _ rfl | assumption) rfl rfl rfl dX13_marks_10 rfl ?_
    exact jk_iret rfl dX13_marks_13 (by exact md_q (k := 1) (v := 0) (g' := g) (by unfold md_marks; simp [*] <;> omega) (by unfold md_res md_th; simp only [jk_row_row, jk_row_id hg]; try rfl))
theorem c_X13_addsStation {G : jk_G} {n : Nat} {t : jk_T} {σ : jk_I} {ρ : jk_P} {m : Nat} {g O : Int → Int} {B : Int} {q d f : Int} (hm : md_at t ρ m) (hg : σ (m + 2) = g) (hi : md_inv B g) (ho : σ m = O) (hq : jk_in q) (hd : jk_in d) (hf : jk_in f) : jk_K G yX13_addsStation mX13_addsStation 0 0 [.ref m, jI q, jI d, jI f] n t σ ρ (jk_q (some (jI (md_addsStation g q d f).2.1)) n t (md_res σ m O (md_addsStation g q d f)) ρ) jk_no := by
  refine jk_entryB (ls := [some (.ref m), some (jI q), some (jI d), some (jI f), none]) jm_X13_addsStation.1 rfl rfl rfl ?_
  obtain ⟨i0, i1, i2, i3, -⟩ := id hi
  refine jk_aload_n (q := 1) dX13_addsStation_0 rfl rfl ?_
  refine jk_iload_n (q := 2) dX13_addsStation_1 rfl rfl ?_
  refine jk_cV1p (q := 5) (c_X13_isProfile hm hg hi (by first | assumption)) jm_X13_isProfile jw_2115 rfl (by first | exact hm.1 | exact hm.2.1 _ _ rfl | assumption) rfl rfl rfl dX13_addsStation_2 rfl ?_
  refine jk_ifB_ne (q := 14) (q2 := 8) dX13_addsStation_5 rfl rfl (fun h1 => ?_) (fun h1 => ?_)
  · refine jk_iload_n (q := 15) dX13_addsStation_14 rfl rfl ?_
    refine jk_iconst (q := 16) dX13_addsStation_15 rfl ?_
    refine jk_bipush (q := 18) (y := 99) dX13_addsStation_16 rfl (by decide) ?_
    refine jk_cS3p (q := 21) (c_X13_in (by assumption) (by decide) (by decide)) jm_X13_in jw_1961 rfl rfl rfl dX13_addsStation_18 rfl ?_
    refine jk_ifB_eq (q := 37) (q2 := 24) dX13_addsStation_21 rfl rfl (fun h2 => ?_) (fun h2 => ?_)
    · refine jk_aload_n (q := 38) dX13_addsStation_37 rfl rfl ?_
      refine jk_iconst (q := 39) dX13_addsStation_38 rfl ?_
      refine jk_cV1p (q := 42) (c_X13_fails hm (by first | exact ho | exact (jk_row_ne _ _ (by omega)).trans ho)) jm_X13_fails jw_1937 rfl (by first | exact hm.1 | exact hm.2.1 _ _ rfl | assumption) rfl rfl rfl dX13_addsStation_39 rfl ?_
      exact jk_iret rfl dX13_addsStation_42 (by exact md_q (k := 2) (v := 0) (g' := g) (by unfold md_addsStation; simp only [md_stG]; simp [*] <;> omega) (by unfold md_res md_th; simp only [jk_row_row, jk_row_id hg]; try rfl))
    · refine jk_iload_n (q := 25) dX13_addsStation_24 rfl rfl ?_
      refine jk_sipush (q := 28) (y := -999) dX13_addsStation_25 rfl (by decide) ?_
      refine jk_sipush (q := 31) (y := 999) dX13_addsStation_28 rfl (by decide) ?_
      refine jk_cS3p (q := 34) (c_X13_in (by assumption) (by decide) (by decide)) jm_X13_in jw_1961 rfl rfl rfl dX13_addsStation_31 rfl ?_
      refine jk_ifB_ne (q := 43) (q2 := 37) dX13_addsStation_34 rfl rfl (fun h3 => ?_) (fun h3 => ?_)
      · have hp2 := md_inT (by assumption : md_in q 0 (g 2 - 1) = true)
        obtain ⟨s1, -⟩ := hi.2.2.2.2.2.2.2.1 q ⟨by omega, by omega⟩
        have hrg := hi.2.2.2.2.2.2.2.2
        refine jk_aload_n (q := 44) dX13_addsStation_43 rfl rfl ?_
        refine jk_getA (q := 47) (k := 13) 0 0 rfl (by first | exact hm.1 | exact hm.2.1 _ _ rfl | assumption) (by first | exact hm.2.2 _ _ rfl | assumption) rfl rfl jw_1848 dX13_addsStation_44 rfl ?_
        refine jk_sipush (q := 50) (y := 156) dX13_addsStation_47 rfl (by decide) ?_
        refine jk_iload_n (q := 51) dX13_addsStation_50 rfl rfl ?_
        refine jk_iadd (q := 52) dX13_addsStation_51 rfl ?_
        refine jk_ialdR (q := 53) (by first | exact hm.1 | exact hm.2.1 _ _ rfl | assumption) (by first | exact jk_row_same _ _ _ | exact hg | exact ho | (rewrite [jk_row_ne _ _ (by omega)]; first | exact jk_row_same _ _ _ | exact hg | exact ho | (rewrite [jk_row_ne _ _ (by omega)]; first | exact jk_row_same _ _ _ | exact hg | exact ho | (rewrite [jk_row_ne _ _ (by omega)]; first | exact jk_row_same _ _ _ | exact hg | exact ho | (rewrite [jk_row_ne _ _ (by omega)]; first | exact hg | exact ho | rfl))))) (by first | decide | omega | exact jB_01 _) dX13_addsStation_52 rfl ?_
        refine jk_istore4 (q := 55) dX13_addsStation_53 rfl rfl rfl ?_
        refine jk_iload (q := 57) dX13_addsStation_55 rfl rfl ?_
        refine jk_bipush (q := 59) (y := 10) dX13_addsStation_57 rfl (by decide) ?_
        refine jk_icmp_eq (q := 80) (q2 := 62) dX13_addsStation_59 rfl rfl (by first | decide | omega | exact jB_01 _) (by first | decide | omega | exact jB_01 _) (fun h4 => ?_) (fun h4 => ?_)
        · refine jk_aload_n (q := 81) dX13_addsStation_80 rfl rfl ?_
          refine jk_iconst (q := 82) dX13_addsStation_81 rfl ?_
          refine jk_cV1p (q := 85) (c_X13_fails hm (by first | exact ho | exact (jk_row_ne _ _ (by omega)).trans ho)) jm_X13_fails jw_1937 rfl (by first | exact hm.1 | exact hm.2.1 _ _ rfl | assumption) rfl rfl rfl dX13_addsStation_82 rfl ?_
          exact jk_iret rfl dX13_addsStation_85 (by exact md_q (k := 3) (v := 0) (g' := g) (by unfold md_addsStation; simp only [md_stG]; simp [*] <;> omega) (by unfold md_res md_th; simp only [jk_row_row, jk_row_id hg]; try rfl))
        · refine jk_iload (q := 64) dX13_addsStation_62 rfl rfl ?_
          refine jk_if_le (q := 86) (q2 := 67) dX13_addsStation_64 rfl rfl (by first | decide | omega | exact jB_01 _) (fun h5 => ?_) (fun h5 => ?_)
          · refine jk_aload_n (q := 87) dX13_addsStation_86 rfl rfl ?_
            refine jk_getA (q := 90) (k := 13) 0 0 rfl (by first | exact hm.1 | exact hm.2.1 _ _ rfl | assumption) (by first | exact hm.2.2 _ _ rfl | assumption) rfl rfl jw_1848 dX13_addsStation_87 rfl ?_
            refine jk_sipush (q := 93) (y := 160) dX13_addsStation_90 rfl (by decide) ?_
            refine jk_bipush (q := 95) (y := 10) dX13_addsStation_93 rfl (by decide) ?_
            refine jk_iload_n (q := 96) dX13_addsStation_95 rfl rfl ?_
            refine jk_imul (q := 97) dX13_addsStation_96 rfl ?_
            refine jk_iadd (q := 98) dX13_addsStation_97 rfl ?_
            refine jk_iload (q := 100) dX13_addsStation_98 rfl rfl ?_
            refine jk_iadd (q := 101) dX13_addsStation_100 rfl ?_
            refine jk_iload_n (q := 102) dX13_addsStation_101 rfl rfl ?_
            refine jk_iastR (q := 103) (by first | exact hm.1 | exact hm.2.1 _ _ rfl | assumption) (by first | exact jk_row_same _ _ _ | exact hg | exact ho | (rewrite [jk_row_ne _ _ (by omega)]; first | exact jk_row_same _ _ _ | exact hg | exact ho | (rewrite [jk_row_ne _ _ (by omega)]; first | exact jk_row_same _ _ _ | exact hg | exact ho | (rewrite [jk_row_ne _ _ (by omega)]; first | exact jk_row_same _ _ _ | exact hg | exact ho | (rewrite [jk_row_ne _ _ (by omega)]; first | exact hg | exact ho | rfl))))) (by first | decide | omega | exact jB_01 _) dX13_addsStation_102 rfl ?_
            refine jk_aload_n (q := 104) dX13_addsStation_103 rfl rfl ?_
            refine jk_getA (q := 107) (k := 13) 0 0 rfl (by first | exact hm.1 | exact hm.2.1 _ _ rfl | assumption) (by first | exact hm.2.2 _ _ rfl | assumption) rfl rfl jw_1848 dX13_addsStation_104 rfl ?_
            refine jk_sipush (q := 110) (y := 200) dX13_addsStation_107 rfl (by decide) ?_
            refine jk_bipush (q := 112) (y := 10) dX13_addsStation_110 rfl (by decide) ?_
            refine jk_iload_n (q := 113) dX13_addsStation_112 rfl rfl ?_
            refine jk_imul (q := 114) dX13_addsStation_113 rfl ?_
            refine jk_iadd (q := 115) dX13_addsStation_114 rfl ?_
            refine jk_iload (q := 117) dX13_addsStation_115 rfl rfl ?_
            refine jk_iadd (q := 118) dX13_addsStation_117 rfl ?_
            refine jk_iload_n (q := 119) dX13_addsStation_118 rfl rfl ?_
            refine jk_iastR (q := 120) (by first | exact hm.1 | exact hm.2.1 _ _ rfl | assumption) (by first | exact jk_row_same _ _ _ | exact hg | exact ho | (rewrite [jk_row_ne _ _ (by omega)]; first | exact jk_row_same _ _ _ | exact hg | exact ho | (rewrite [jk_row_ne _ _ (by omega)]; first | exact jk_row_same _ _ _ | exact hg | exact ho | (rewrite [jk_row_ne _ _ (by omega)]; first | exact jk_row_same _ _ _ | exact hg | exact ho | (rewrite [jk_row_ne _ _ (by omega)]; first | exact hg | exact ho | rfl))))) (by first | decide | omega | exact jB_01 _) dX13_addsStation_119 rfl ?_
            refine jk_aload_n (q := 121) dX13_addsStation_120 rfl rfl ?_
            refine jk_getA (q := 124) (k := 13) 0 0 rfl (by first | exact hm.1 | exact hm.2.1 _ _ rfl | assumption) (by first | exact hm.2.2 _ _ rfl | assumption) rfl rfl jw_1848 dX13_addsStation_121 rfl ?_
            refine jk_sipush (q := 127) (y := 156) dX13_addsStation_124 rfl (by decide) ?_
            refine jk_iload_n (q := 128) dX13_addsStation_127 rfl rfl ?_
            refine jk_iadd (q := 129) dX13_addsStation_128 rfl ?_
            refine jk_dup2 (q := 130) dX13_addsStation_129 rfl rfl rfl ?_
            refine jk_ialdR (q := 131) (by first | exact hm.1 | exact hm.2.1 _ _ rfl | assumption) (by first | exact jk_row_same _ _ _ | exact hg | exact ho | (rewrite [jk_row_ne _ _ (by omega)]; first | exact jk_row_same _ _ _ | exact hg | exact ho | (rewrite [jk_row_ne _ _ (by omega)]; first | exact jk_row_same _ _ _ | exact hg | exact ho | (rewrite [jk_row_ne _ _ (by omega)]; first | exact jk_row_same _ _ _ | exact hg | exact ho | (rewrite [jk_row_ne _ _ (by omega)]; first | exact hg | exact ho | rfl))))) (by first | decide | omega | exact jB_01 _) dX13_addsStation_130 rfl ?_
            refine jk_iconst (q := 132) dX13_addsStation_131 rfl ?_
            refine jk_iadd (q := 133) dX13_addsStation_132 rfl ?_
            refine jk_iastR (q := 134) (by first | exact hm.1 | exact hm.2.1 _ _ rfl | assumption) (by first | exact jk_row_same _ _ _ | exact hg | exact ho | (rewrite [jk_row_ne _ _ (by omega)]; first | exact jk_row_same _ _ _ | exact hg | exact ho | (rewrite [jk_row_ne _ _ (by omega)]; first | exact jk_row_same _ _ _ | exact hg | exact ho | (rewrite [jk_row_ne _ _ (by omega)]; first | exact jk_row_same _ _ _ | exact hg | exact ho | (rewrite [jk_row_ne _ _ (by omega)]; first | exact hg | exact ho | rfl))))) (by first | decide | omega | exact jB_01 _) dX13_addsStation_133 rfl ?_
            rw [jk_set_ne _ f (show ¬ (156 + q = 200 + 10 * q + g (156 + q)) by omega), jk_set_ne _ d (show ¬ (156 + q = 160 + 10 * q + g (156 + q)) by omega)]
            refine jk_aload_n (q := 135) dX13_addsStation_134 rfl rfl ?_
            refine jk_iload (q := 137) dX13_addsStation_135 rfl rfl ?_
            refine jk_iconst (q := 138) dX13_addsStation_137 rfl ?_
            refine jk_iadd (q := 139) dX13_addsStation_138 rfl ?_
            refine jk_cV1p (q := 142) (c_X13_done (O := O) hm (by (try simp only [jk_row_row]); first | exact ho | exact (jk_row_ne _ _ (by omega)).trans ho | exact (jk_row_ne _ _ (by omega)).trans ((jk_row_ne _ _ (by omega)).trans ho))) jm_X13_done jw_1941 rfl (by first | exact hm.1 | exact hm.2.1 _ _ rfl | assumption) rfl rfl rfl dX13_addsStation_139 rfl ?_
            exact jk_iret rfl dX13_addsStation_142 (by exact md_q (k := 0) (v := g (156 + q) + 1) (g' := md_stG g q d f) (by unfold md_addsStation; simp only [md_stG]; simp [*] <;> omega) (by unfold md_res md_th; simp only [jk_row_row, jk_row_id hg]; try rfl))
          · refine jk_iload_n (q := 68) dX13_addsStation_67 rfl rfl ?_
            refine jk_aload_n (q := 69) dX13_addsStation_68 rfl rfl ?_
            refine jk_iload_n (q := 70) dX13_addsStation_69 rfl rfl ?_
            refine jk_iload (q := 72) dX13_addsStation_70 rfl rfl ?_
            refine jk_iconst (q := 73) dX13_addsStation_72 rfl ?_
            refine jk_isub (q := 74) dX13_addsStation_73 rfl ?_
            refine jk_cV2p (q := 77) (c_X13_distanceOf hm hg ⟨by omega, by omega⟩ ⟨by omega, by omega⟩) jm_X13_distanceOf jw_2119 rfl (by first | exact hm.1 | exact hm.2.1 _ _ rfl | assumption) rfl rfl rfl dX13_addsStation_74 rfl ?_
            have hrd := hrg (160 + 10 * q + (g (156 + q) - 1)) ⟨by omega, by omega⟩
            refine jk_icmp_gt (q := 86) (q2 := 80) dX13_addsStation_77 rfl rfl (by first | decide | omega | exact jB_01 _) (by first | decide | omega | exact jB_01 _) (fun h6 => ?_) (fun h6 => ?_)
            · refine jk_aload_n (q := 87) dX13_addsStation_86 rfl rfl ?_
              refine jk_getA (q := 90) (k := 13) 0 0 rfl (by first | exact hm.1 | exact hm.2.1 _ _ rfl | assumption) (by first | exact hm.2.2 _ _ rfl | assumption) rfl rfl jw_1848 dX13_addsStation_87 rfl ?_
              refine jk_sipush (q := 93) (y := 160) dX13_addsStation_90 rfl (by decide) ?_
              refine jk_bipush (q := 95) (y := 10) dX13_addsStation_93 rfl (by decide) ?_
              refine jk_iload_n (q := 96) dX13_addsStation_95 rfl rfl ?_
              refine jk_imul (q := 97) dX13_addsStation_96 rfl ?_
              refine jk_iadd (q := 98) dX13_addsStation_97 rfl ?_
              refine jk_iload (q := 100) dX13_addsStation_98 rfl rfl ?_
              refine jk_iadd (q := 101) dX13_addsStation_100 rfl ?_
              refine jk_iload_n (q := 102) dX13_addsStation_101 rfl rfl ?_
              refine jk_iastR (q := 103) (by first | exact hm.1 | exact hm.2.1 _ _ rfl | assumption) (by first | exact jk_row_same _ _ _ | exact hg | exact ho | (rewrite [jk_row_ne _ _ (by omega)]; first | exact jk_row_same _ _ _ | exact hg | exact ho | (rewrite [jk_row_ne _ _ (by omega)]; first | exact jk_row_same _ _ _ | exact hg | exact ho | (rewrite [jk_row_ne _ _ (by omega)]; first | exact jk_row_same _ _ _ | exact hg | exact ho | (rewrite [jk_row_ne _ _ (by omega)]; first | exact hg | exact ho | rfl))))) (by first | decide | omega | exact jB_01 _) dX13_addsStation_102 rfl ?_
              refine jk_aload_n (q := 104) dX13_addsStation_103 rfl rfl ?_
              refine jk_getA (q := 107) (k := 13) 0 0 rfl (by first | exact hm.1 | exact hm.2.1 _ _ rfl | assumption) (by first | exact hm.2.2 _ _ rfl | assumption) rfl rfl jw_1848 dX13_addsStation_104 rfl ?_
              refine jk_sipush (q := 110) (y := 200) dX13_addsStation_107 rfl (by decide) ?_
              refine jk_bipush (q := 112) (y := 10) dX13_addsStation_110 rfl (by decide) ?_
              refine jk_iload_n (q := 113) dX13_addsStation_112 rfl rfl ?_
              refine jk_imul (q := 114) dX13_addsStation_113 rfl ?_
              refine jk_iadd (q := 115) dX13_addsStation_114 rfl ?_
              refine jk_iload (q := 117) dX13_addsStation_115 rfl rfl ?_
              refine jk_iadd (q := 118) dX13_addsStation_117 rfl ?_
              refine jk_iload_n (q := 119) dX13_addsStation_118 rfl rfl ?_
              refine jk_iastR (q := 120) (by first | exact hm.1 | exact hm.2.1 _ _ rfl | assumption) (by first | exact jk_row_same _ _ _ | exact hg | exact ho | (rewrite [jk_row_ne _ _ (by omega)]; first | exact jk_row_same _ _ _ | exact hg | exact ho | (rewrite [jk_row_ne _ _ (by omega)]; first | exact jk_row_same _ _ _ | exact hg | exact ho | (rewrite [jk_row_ne _ _ (by omega)]; first | exact jk_row_same _ _ _ | exact hg | exact ho | (rewrite [jk_row_ne _ _ (by omega)]; first | exact hg | exact ho | rfl))))) (by first | decide | omega | exact jB_01 _) dX13_addsStation_119 rfl ?_
              refine jk_aload_n (q := 121) dX13_addsStation_120 rfl rfl ?_
              refine jk_getA (q := 124) (k := 13) 0 0 rfl (by first | exact hm.1 | exact hm.2.1 _ _ rfl | assumption) (by first | exact hm.2.2 _ _ rfl | assumption) rfl rfl jw_1848 dX13_addsStation_121 rfl ?_
              refine jk_sipush (q := 127) (y := 156) dX13_addsStation_124 rfl (by decide) ?_
              refine jk_iload_n (q := 128) dX13_addsStation_127 rfl rfl ?_
              refine jk_iadd (q := 129) dX13_addsStation_128 rfl ?_
              refine jk_dup2 (q := 130) dX13_addsStation_129 rfl rfl rfl ?_
              refine jk_ialdR (q := 131) (by first | exact hm.1 | exact hm.2.1 _ _ rfl | assumption) (by first | exact jk_row_same _ _ _ | exact hg | exact ho | (rewrite [jk_row_ne _ _ (by omega)]; first | exact jk_row_same _ _ _ | exact hg | exact ho | (rewrite [jk_row_ne _ _ (by omega)]; first | exact jk_row_same _ _ _ | exact hg | exact ho | (rewrite [jk_row_ne _ _ (by omega)]; first | exact jk_row_same _ _ _ | exact hg | exact ho | (rewrite [jk_row_ne _ _ (by omega)]; first | exact hg | exact ho | rfl))))) (by first | decide | omega | exact jB_01 _) dX13_addsStation_130 rfl ?_
              refine jk_iconst (q := 132) dX13_addsStation_131 rfl ?_
              refine jk_iadd (q := 133) dX13_addsStation_132 rfl ?_
              refine jk_iastR (q := 134) (by first | exact hm.1 | exact hm.2.1 _ _ rfl | assumption) (by first | exact jk_row_same _ _ _ | exact hg | exact ho | (rewrite [jk_row_ne _ _ (by omega)]; first | exact jk_row_same _ _ _ | exact hg | exact ho | (rewrite [jk_row_ne _ _ (by omega)]; first | exact jk_row_same _ _ _ | exact hg | exact ho | (rewrite [jk_row_ne _ _ (by omega)]; first | exact jk_row_same _ _ _ | exact hg | exact ho | (rewrite [jk_row_ne _ _ (by omega)]; first | exact hg | exact ho | rfl))))) (by first | decide | omega | exact jB_01 _) dX13_addsStation_133 rfl ?_
              rw [jk_set_ne _ f (show ¬ (156 + q = 200 + 10 * q + g (156 + q)) by omega), jk_set_ne _ d (show ¬ (156 + q = 160 + 10 * q + g (156 + q)) by omega)]
              refine jk_aload_n (q := 135) dX13_addsStation_134 rfl rfl ?_
              refine jk_iload (q := 137) dX13_addsStation_135 rfl rfl ?_
              refine jk_iconst (q := 138) dX13_addsStation_137 rfl ?_
              refine jk_iadd (q := 139) dX13_addsStation_138 rfl ?_
              refine jk_cV1p (q := 142) (c_X13_done (O := O) hm (by (try simp only [jk_row_row]); first | exact ho | exact (jk_row_ne _ _ (by omega)).trans ho | exact (jk_row_ne _ _ (by omega)).trans ((jk_row_ne _ _ (by omega)).trans ho))) jm_X13_done jw_1941 rfl (by first | exact hm.1 | exact hm.2.1 _ _ rfl | assumption) rfl rfl rfl dX13_addsStation_139 rfl ?_
              exact jk_iret rfl dX13_addsStation_142 (by exact md_q (k := 0) (v := g (156 + q) + 1) (g' := md_stG g q d f) (by unfold md_addsStation; simp only [md_stG]; simp [*] <;> omega) (by unfold md_res md_th; simp only [jk_row_row, jk_row_id hg]; try rfl))
            · refine jk_aload_n (q := 81) dX13_addsStation_80 rfl rfl ?_
              refine jk_iconst (q := 82) dX13_addsStation_81 rfl ?_
              refine jk_cV1p (q := 85) (c_X13_fails hm (by first | exact ho | exact (jk_row_ne _ _ (by omega)).trans ho)) jm_X13_fails jw_1937 rfl (by first | exact hm.1 | exact hm.2.1 _ _ rfl | assumption) rfl rfl rfl dX13_addsStation_82 rfl ?_
              exact jk_iret rfl dX13_addsStation_85 (by exact md_q (k := 3) (v := 0) (g' := g) (by unfold md_addsStation; simp only [md_stG]; simp [*] <;> omega) (by unfold md_res md_th; simp only [jk_row_row, jk_row_id hg]; try rfl))
      · refine jk_aload_n (q := 38) dX13_addsStation_37 rfl rfl ?_
        refine jk_iconst (q := 39) dX13_addsStation_38 rfl ?_
        refine jk_cV1p (q := 42) (c_X13_fails hm (by first | exact ho | exact (jk_row_ne _ _ (by omega)).trans ho)) jm_X13_fails jw_1937 rfl (by first | exact hm.1 | exact hm.2.1 _ _ rfl | assumption) rfl rfl rfl dX13_addsStation_39 rfl ?_
        exact jk_iret rfl dX13_addsStation_42 (by exact md_q (k := 2) (v := 0) (g' := g) (by unfold md_addsStation; simp only [md_stG]; simp [*] <;> omega) (by unfold md_res md_th; simp only [jk_row_row, jk_row_id hg]; try rfl))
  · refine jk_aload_n (q := 9) dX13_addsStation_8 rfl rfl ?_
    refine jk_iconst (q := 10) dX13_addsStation_9 rfl ?_
    refine jk_cV1p (q := 13) (c_X13_fails hm (by first | exact ho | exact (jk_row_ne _ _ (by omega)).trans ho)) jm_X13_fails jw_1937 rfl (by first | exact hm.1 | exact hm.2.1 _ _ rfl | assumption) rfl rfl rfl dX13_addsStation_10 rfl ?_
    exact jk_iret rfl dX13_addsStation_13 (by exact md_q (k := 1) (v := 0) (g' := g) (by unfold md_addsStation; simp only [md_stG]; simp [*] <;> omega) (by unfold md_res md_th; simp only [jk_row_row, jk_row_id hg]; try rfl))
end MD9
