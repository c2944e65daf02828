section MD12
def md_rok (r : md_R3) : Prop := (0 ≤ r.1 ∧ r.1 ≤ 3) ∧ md_zf 240 r.2.2
theorem md_rok0 : (0 : Int) ≤ 0 ∧ (0 : Int) ≤ 3 := by decide
theorem md_rok_f {g : Int → Int} (hz : md_zf 240 g) {k : Int} (hk : 0 ≤ k ∧ k ≤ 3) : md_rok (k, 0, g) := ⟨hk, hz⟩
theorem md_addsPoint_ok {B : Int} {g : Int → Int} (hi : md_inv B g) (hz : md_zf 240 g) : md_rok (md_addsPoint g) := by
  obtain ⟨i0, i1, i2, i3, -⟩ := id hi
  unfold md_addsPoint
  split
  · exact md_rok_f hz (by decide)
  · exact ⟨md_rok0, md_zf_set hz (by omega)⟩
theorem md_fixes_ok {B : Int} {g : Int → Int} (hi : md_inv B g) (hz : md_zf 240 g) {p v : Int} : md_rok (md_fixes g p v) := by
  obtain ⟨i0, i1, i2, i3, -⟩ := id hi
  unfold md_fixes
  split
  · exact md_rok_f hz (by decide)
  rename_i hp
  have hp2 := md_inT (by simpa using hp : md_in p 0 (g 0 - 1) = true)
  split
  · exact md_rok_f hz (by decide)
  · exact ⟨md_rok0, md_zf_set (md_zf_set hz (by omega)) (by omega)⟩
theorem md_releases_ok {B : Int} {g : Int → Int} (hi : md_inv B g) (hz : md_zf 240 g) {p : Int} : md_rok (md_releases g p) := by
  obtain ⟨i0, i1, i2, i3, -⟩ := id hi
  unfold md_releases
  split
  · exact md_rok_f hz (by decide)
  rename_i hp
  have hp2 := md_inT (by simpa using hp : md_in p 0 (g 0 - 1) = true)
  split
  · exact md_rok_f hz (by decide)
  · exact ⟨md_rok0, md_zf_set hz (by omega)⟩
theorem md_addsLine_ok {B : Int} {g : Int → Int} (hi : md_inv B g) (hz : md_zf 240 g) {a b f len : Int} : md_rok (md_addsLine g a b f len) := by
  obtain ⟨i0, i1, i2, i3, -⟩ := id hi
  unfold md_addsLine
  split
  · exact md_rok_f hz (by decide)
  split
  · exact md_rok_f hz (by decide)
  split
  · exact md_rok_f hz (by decide)
  · exact ⟨md_rok0, md_zf_set (md_zf_set (md_zf_set (md_zf_set (md_zf_set hz (by omega)) (by omega)) (by omega)) (by omega)) (by omega)⟩
theorem md_addsRun_ok {B : Int} {g : Int → Int} (hi : md_inv B g) (hz : md_zf 240 g) {l b : Int} : md_rok (md_addsRun g l b) := by
  obtain ⟨i0, i1, i2, i3, -⟩ := id hi
  unfold md_addsRun
  split
  · exact md_rok_f hz (by decide)
  rename_i hp
  have hp2 := md_inT (by simpa using hp : md_in l 0 (g 1 - 1) = true)
  split
  · exact md_rok_f hz (by decide)
  split
  · exact md_rok_f hz (by decide)
  · exact ⟨md_rok0, md_zf_set (md_zf_set hz (by omega)) (by omega)⟩
theorem md_marks_ok {B : Int} {g : Int → Int} (hi : md_inv B g) (hz : md_zf 240 g) {l w : Int} : md_rok (md_marks g l w) := by
  obtain ⟨i0, i1, i2, i3, -⟩ := id hi
  unfold md_marks
  split
  · exact md_rok_f hz (by decide)
  rename_i hp
  have hp2 := md_inT (by simpa using hp : md_in l 0 (g 1 - 1) = true)
  split
  · exact md_rok_f hz (by decide)
  · exact ⟨md_rok0, md_zf_set hz (by omega)⟩
theorem md_resets_ok {B : Int} {g : Int → Int} (hi : md_inv B g) (hz : md_zf 240 g) : md_rok (md_resets g) := by
  obtain ⟨i0, i1, i2, i3, -⟩ := id hi
  unfold md_resets
  refine ⟨md_rok0, fun p hp => ?_⟩
  show md_clr g (g 1) p = 0
  unfold md_clr
  rw [if_neg (by omega)]; exact hz p hp
theorem md_addsProfile_ok {B : Int} {g : Int → Int} (hi : md_inv B g) (hz : md_zf 240 g) {p : Int} : md_rok (md_addsProfile g p) := by
  obtain ⟨i0, i1, i2, i3, -⟩ := id hi
  unfold md_addsProfile
  split
  · exact md_rok_f hz (by decide)
  split
  · exact md_rok_f hz (by decide)
  · exact ⟨md_rok0, md_zf_set (md_zf_set hz (by omega)) (by omega)⟩
theorem md_addsStation_ok {B : Int} {g : Int → Int} (hi : md_inv B g) (hz : md_zf 240 g) {q d f : Int} : md_rok (md_addsStation g q d f) := by
  obtain ⟨i0, i1, i2, i3, -⟩ := id hi
  unfold md_addsStation
  split
  · exact md_rok_f hz (by decide)
  rename_i hp
  have hp2 := md_inT (by simpa using hp : md_in q 0 (g 2 - 1) = true)
  obtain ⟨s1, -⟩ := hi.2.2.2.2.2.2.2.1 q ⟨by omega, by omega⟩
  split
  · exact md_rok_f hz (by decide)
  split
  · exact md_rok_f hz (by decide)
  · exact ⟨md_rok0, md_zf_set (md_zf_set (md_zf_set hz (by omega)) (by omega)) (by omega)⟩
theorem md_setsWater_ok {B : Int} {g : Int → Int} (hi : md_inv B g) (hz : md_zf 240 g) {w : Int} : md_rok (md_setsWater g w) := by
  obtain ⟨i0, i1, i2, i3, -⟩ := id hi
  unfold md_setsWater
  split
  · exact md_rok_f hz (by decide)
  · exact ⟨md_rok0, md_zf_set hz (by omega)⟩
theorem md_shares_ok {B : Int} {g : Int → Int} (hi : md_inv B g) (hz : md_zf 240 g) {l : Int} : md_rok (md_shares g l) := by
  obtain ⟨i0, i1, i2, i3, -⟩ := id hi
  have hw := md_why_bd g l
  unfold md_shares
  split
  · exact md_rok_f hz ⟨by omega, by omega⟩
  · split
    · exact md_rok_f hz (by decide)
    · refine ⟨md_rok0, fun p hp => ?_⟩
      show md_shk g _ _ _ (g 1) p = 0
      unfold md_shk
      rw [if_neg (by omega)]; exact hz p hp
/-- the heap behind a public change: s the heap in which the change itself began -/
def md_pub (σ : jk_I) (m : Nat) (O h g : Int → Int) (r : md_R3) : jk_I := md_kp (md_res σ m O r) m (jk_set O 12 r.1) h g
def md_pubV (r : md_R3) : Int := if r.1 = 0 then r.2.1 else 0
theorem c_X13_addBenchmark {G : jk_G} {n : Nat} {t : jk_T} {σ : jk_I} {ρ : jk_P} {m : Nat} {g b h O : Int → Int} {B : Int} (hm : md_at t ρ m) (hg : σ (m + 2) = g) (hi : md_inv B g) (ho : σ m = O) (hb4 : σ (m + 4) = b) (hgz : md_zf 240 g) (hbz : md_zf 240 b) (hh : σ (m + 6) = h) (ho3 : 0 ≤ O 3 ∧ O 3 ≤ 8)  : jk_K G yX13_addBenchmark mX13_addBenchmark 0 0 [.ref m] n t σ ρ (jk_q (some (jI (md_pubV (md_addsPoint g)))) n t (md_pub (jk_row σ (m + 4) g) m O h g (md_addsPoint g)) ρ) jk_no := by
  refine jk_entryB (ls := [some (.ref m)]) jm_X13_addBenchmark.1 rfl rfl rfl ?_
  have hok := md_addsPoint_ok hi hgz
  have hk1 := hok.1
  refine jk_aload_n (q := 1) dX13_addBenchmark_0 rfl rfl ?_
  refine jk_cV0v (q := 4) (c_X13_begin hm hg hb4 hgz hbz) jm_X13_begin jw_1926 rfl (by first | exact hm.1 | exact hm.2.1 _ _ rfl | assumption) rfl rfl rfl dX13_addBenchmark_1 rfl ?_
  refine jk_aload_n (q := 5) dX13_addBenchmark_4 rfl rfl ?_
  refine jk_aload_n (q := 6) dX13_addBenchmark_5 rfl rfl ?_
  refine jk_cV0p (q := 9) (c_X13_addsPoint hm ((jk_row_ne _ _ (by omega)).trans hg) hi ((jk_row_ne _ _ (by omega)).trans ho) ) jm_X13_addsPoint jw_1933 rfl (by first | exact hm.1 | exact hm.2.1 _ _ rfl | assumption) rfl rfl rfl dX13_addBenchmark_6 rfl ?_
  refine jk_cV1p (q := 12) (c_X13_kept (g := (md_addsPoint g).2.2) (O := jk_set O 12 (md_addsPoint g).1) (b := g) (h := h) hm (by unfold md_res; rw [jk_row_ne _ _ (by omega), jk_row_same]) (jk_row_same _ _ _) (by unfold md_res; rw [jk_row_ne _ _ (by omega), jk_row_ne _ _ (by omega)]; exact jk_row_same _ _ _) hok.2 hgz (by unfold md_res; rw [jk_row_ne _ _ (by omega), jk_row_ne _ _ (by omega)]; exact (jk_row_ne _ _ (by omega)).trans hh) (by rw [jk_set_ne _ _ (by decide)]; exact ho3) (by rw [jk_set_at]; omega)) jm_X13_kept jw_1945 rfl (by first | exact hm.1 | exact hm.2.1 _ _ rfl | assumption) rfl rfl rfl dX13_addBenchmark_9 rfl ?_
  exact jk_iret rfl dX13_addBenchmark_12 (by refine ⟨?_, rfl, rfl, rfl, rfl⟩; unfold md_pubV; rw [jk_set_at])
theorem c_X13_fix {G : jk_G} {n : Nat} {t : jk_T} {σ : jk_I} {ρ : jk_P} {m : Nat} {g b h O : Int → Int} {B : Int} {p v : Int} (hm : md_at t ρ m) (hg : σ (m + 2) = g) (hi : md_inv B g) (ho : σ m = O) (hb4 : σ (m + 4) = b) (hgz : md_zf 240 g) (hbz : md_zf 240 b) (hh : σ (m + 6) = h) (ho3 : 0 ≤ O 3 ∧ O 3 ≤ 8) (hp : jk_in p) (hv : jk_in v) : jk_K G yX13_fix mX13_fix 0 0 [.ref m, jI p, jI v] n t σ ρ (jk_q (some (jI (md_pubV (md_fixes g p v)))) n t (md_pub (jk_row σ (m + 4) g) m O h g (md_fixes g p v)) ρ) jk_no := by
  refine jk_entryB (ls := [some (.ref m), some (jI p), some (jI v)]) jm_X13_fix.1 rfl rfl rfl ?_
  have hok := md_fixes_ok hi hgz (p := p) (v := v)
  have hk1 := hok.1
  refine jk_aload_n (q := 1) dX13_fix_0 rfl rfl ?_
  refine jk_cV0v (q := 4) (c_X13_begin hm hg hb4 hgz hbz) jm_X13_begin jw_1926 rfl (by first | exact hm.1 | exact hm.2.1 _ _ rfl | assumption) rfl rfl rfl dX13_fix_1 rfl ?_
  refine jk_aload_n (q := 5) dX13_fix_4 rfl rfl ?_
  refine jk_aload_n (q := 6) dX13_fix_5 rfl rfl ?_
  refine jk_iload_n (q := 7) dX13_fix_6 rfl rfl ?_
  refine jk_iload_n (q := 8) dX13_fix_7 rfl rfl ?_
  refine jk_cV2p (q := 11) (c_X13_fixes hm ((jk_row_ne _ _ (by omega)).trans hg) hi ((jk_row_ne _ _ (by omega)).trans ho) hp hv) jm_X13_fixes jw_1953 rfl (by first | exact hm.1 | exact hm.2.1 _ _ rfl | assumption) rfl rfl rfl dX13_fix_8 rfl ?_
  refine jk_cV1p (q := 14) (c_X13_kept (g := (md_fixes g p v).2.2) (O := jk_set O 12 (md_fixes g p v).1) (b := g) (h := h) hm (by unfold md_res; rw [jk_row_ne _ _ (by omega), jk_row_same]) (jk_row_same _ _ _) (by unfold md_res; rw [jk_row_ne _ _ (by omega), jk_row_ne _ _ (by omega)]; exact jk_row_same _ _ _) hok.2 hgz (by unfold md_res; rw [jk_row_ne _ _ (by omega), jk_row_ne _ _ (by omega)]; exact (jk_row_ne _ _ (by omega)).trans hh) (by rw [jk_set_ne _ _ (by decide)]; exact ho3) (by rw [jk_set_at]; omega)) jm_X13_kept jw_1945 rfl (by first | exact hm.1 | exact hm.2.1 _ _ rfl | assumption) rfl rfl rfl dX13_fix_11 rfl ?_
  exact jk_iret rfl dX13_fix_14 (by refine ⟨?_, rfl, rfl, rfl, rfl⟩; unfold md_pubV; rw [jk_set_at])
theorem c_X13_release {G : jk_G} {n : Nat} {t : jk_T} {σ : jk_I} {ρ : jk_P} {m : Nat} {g b h O : Int → Int} {B : Int} {p : Int} (hm : md_at t ρ m) (hg : σ (m + 2) = g) (hi : md_inv B g) (ho : σ m = O) (hb4 : σ (m + 4) = b) (hgz : md_zf 240 g) (hbz : md_zf 240 b) (hh : σ (m + 6) = h) (ho3 : 0 ≤ O 3 ∧ O 3 ≤ 8) (hp : jk_in p) : jk_K G yX13_release mX13_release 0 0 [.ref m, jI p] n t σ ρ (jk_q (some (jI (md_pubV (md_releases g p)))) n t (md_pub (jk_row σ (m + 4) g) m O h g (md_releases g p)) ρ) jk_no := by
  refine jk_entryB (ls := [some (.ref m), some (jI p)]) jm_X13_release.1 rfl rfl rfl ?_
  have hok := md_releases_ok hi hgz (p := p)
  have hk1 := hok.1
  refine jk_aload_n (q := 1) dX13_release_0 rfl rfl ?_
  refine jk_cV0v (q := 4) (c_X13_begin hm hg hb4 hgz hbz) jm_X13_begin jw_1926 rfl (by first | exact hm.1 | exact hm.2.1 _ _ rfl | assumption) rfl rfl rfl dX13_release_1 rfl ?_
  refine jk_aload_n (q := 5) dX13_release_4 rfl rfl ?_
  refine jk_aload_n (q := 6) dX13_release_5 rfl rfl ?_
  refine jk_iload_n (q := 7) dX13_release_6 rfl rfl ?_
  refine jk_cV1p (q := 10) (c_X13_releases hm ((jk_row_ne _ _ (by omega)).trans hg) hi ((jk_row_ne _ _ (by omega)).trans ho) hp) jm_X13_releases jw_1970 rfl (by first | exact hm.1 | exact hm.2.1 _ _ rfl | assumption) rfl rfl rfl dX13_release_7 rfl ?_
  refine jk_cV1p (q := 13) (c_X13_kept (g := (md_releases g p).2.2) (O := jk_set O 12 (md_releases g p).1) (b := g) (h := h) hm (by unfold md_res; rw [jk_row_ne _ _ (by omega), jk_row_same]) (jk_row_same _ _ _) (by unfold md_res; rw [jk_row_ne _ _ (by omega), jk_row_ne _ _ (by omega)]; exact jk_row_same _ _ _) hok.2 hgz (by unfold md_res; rw [jk_row_ne _ _ (by omega), jk_row_ne _ _ (by omega)]; exact (jk_row_ne _ _ (by omega)).trans hh) (by rw [jk_set_ne _ _ (by decide)]; exact ho3) (by rw [jk_set_at]; omega)) jm_X13_kept jw_1945 rfl (by first | exact hm.1 | exact hm.2.1 _ _ rfl | assumption) rfl rfl rfl dX13_release_10 rfl ?_
  exact jk_iret rfl dX13_release_13 (by refine ⟨?_, rfl, rfl, rfl, rfl⟩; unfold md_pubV; rw [jk_set_at])
theorem c_X13_addLine {G : jk_G} {n : Nat} {t : jk_T} {σ : jk_I} {ρ : jk_P} {m : Nat} {g b h O : Int → Int} {B : Int} {a c f len : Int} (hm : md_at t ρ m) (hg : σ (m + 2) = g) (hi : md_inv B g) (ho : σ m = O) (hb4 : σ (m + 4) = b) (hgz : md_zf 240 g) (hbz : md_zf 240 b) (hh : σ (m + 6) = h) (ho3 : 0 ≤ O 3 ∧ O 3 ≤ 8) (ha : jk_in a) (hc : jk_in c) (hf : jk_in f) (hlen : jk_in len) : jk_K G yX13_addLine mX13_addLine 0 0 [.ref m, jI a, jI c, jI f, jI len] n t σ ρ (jk_q (some (jI (md_pubV (md_addsLine g a c f len)))) n t (md_pub (jk_row σ (m + 4) g) m O h g (md_addsLine g a c f len)) ρ) jk_no := by
  refine jk_entryB (ls := [some (.ref m), some (jI a), some (jI c), some (jI f), some (jI len)]) jm_X13_addLine.1 rfl rfl rfl ?_
  have hok := md_addsLine_ok hi hgz (a := a) (b := c) (f := f) (len := len)
  have hk1 := hok.1
  refine jk_aload_n (q := 1) dX13_addLine_0 rfl rfl ?_
  refine jk_cV0v (q := 4) (c_X13_begin hm hg hb4 hgz hbz) jm_X13_begin jw_1926 rfl (by first | exact hm.1 | exact hm.2.1 _ _ rfl | assumption) rfl rfl rfl dX13_addLine_1 rfl ?_
  refine jk_aload_n (q := 5) dX13_addLine_4 rfl rfl ?_
  refine jk_aload_n (q := 6) dX13_addLine_5 rfl rfl ?_
  refine jk_iload_n (q := 7) dX13_addLine_6 rfl rfl ?_
  refine jk_iload_n (q := 8) dX13_addLine_7 rfl rfl ?_
  refine jk_iload_n (q := 9) dX13_addLine_8 rfl rfl ?_
  refine jk_iload (q := 11) dX13_addLine_9 rfl rfl ?_
  refine jk_cV4p (q := 14) (c_X13_addsLine hm ((jk_row_ne _ _ (by omega)).trans hg) hi ((jk_row_ne _ _ (by omega)).trans ho) ha hc hf hlen) jm_X13_addsLine jw_1978 rfl (by first | exact hm.1 | exact hm.2.1 _ _ rfl | assumption) rfl rfl rfl dX13_addLine_11 rfl ?_
  refine jk_cV1p (q := 17) (c_X13_kept (g := (md_addsLine g a c f len).2.2) (O := jk_set O 12 (md_addsLine g a c f len).1) (b := g) (h := h) hm (by unfold md_res; rw [jk_row_ne _ _ (by omega), jk_row_same]) (jk_row_same _ _ _) (by unfold md_res; rw [jk_row_ne _ _ (by omega), jk_row_ne _ _ (by omega)]; exact jk_row_same _ _ _) hok.2 hgz (by unfold md_res; rw [jk_row_ne _ _ (by omega), jk_row_ne _ _ (by omega)]; exact (jk_row_ne _ _ (by omega)).trans hh) (by rw [jk_set_ne _ _ (by decide)]; exact ho3) (by rw [jk_set_at]; omega)) jm_X13_kept jw_1945 rfl (by first | exact hm.1 | exact hm.2.1 _ _ rfl | assumption) rfl rfl rfl dX13_addLine_14 rfl ?_
  exact jk_iret rfl dX13_addLine_17 (by refine ⟨?_, rfl, rfl, rfl, rfl⟩; unfold md_pubV; rw [jk_set_at])
theorem c_X13_addBackwardRun {G : jk_G} {n : Nat} {t : jk_T} {σ : jk_I} {ρ : jk_P} {m : Nat} {g b h O : Int → Int} {B : Int} {l c : Int} (hm : md_at t ρ m) (hg : σ (m + 2) = g) (hi : md_inv B g) (ho : σ m = O) (hb4 : σ (m + 4) = b) (hgz : md_zf 240 g) (hbz : md_zf 240 b) (hh : σ (m + 6) = h) (ho3 : 0 ≤ O 3 ∧ O 3 ≤ 8) (hl : jk_in l) (hc : jk_in c) : jk_K G yX13_addBackwardRun mX13_addBackwardRun 0 0 [.ref m, jI l, jI c] n t σ ρ (jk_q (some (jI (md_pubV (md_addsRun g l c)))) n t (md_pub (jk_row σ (m + 4) g) m O h g (md_addsRun g l c)) ρ) jk_no := by
  refine jk_entryB (ls := [some (.ref m), some (jI l), some (jI c)]) jm_X13_addBackwardRun.1 rfl rfl rfl ?_
  have hok := md_addsRun_ok hi hgz (l := l) (b := c)
  have hk1 := hok.1
  refine jk_aload_n (q := 1) dX13_addBackwardRun_0 rfl rfl ?_
  refine jk_cV0v (q := 4) (c_X13_begin hm hg hb4 hgz hbz) jm_X13_begin jw_1926 rfl (by first | exact hm.1 | exact hm.2.1 _ _ rfl | assumption) rfl rfl rfl dX13_addBackwardRun_1 rfl ?_
  refine jk_aload_n (q := 5) dX13_addBackwardRun_4 rfl rfl ?_
  refine jk_aload_n (q := 6) dX13_addBackwardRun_5 rfl rfl ?_
  refine jk_iload_n (q := 7) dX13_addBackwardRun_6 rfl rfl ?_
  refine jk_iload_n (q := 8) dX13_addBackwardRun_7 rfl rfl ?_
  refine jk_cV2p (q := 11) (c_X13_addsRun hm ((jk_row_ne _ _ (by omega)).trans hg) hi ((jk_row_ne _ _ (by omega)).trans ho) hl hc) jm_X13_addsRun jw_1986 rfl (by first | exact hm.1 | exact hm.2.1 _ _ rfl | assumption) rfl rfl rfl dX13_addBackwardRun_8 rfl ?_
  refine jk_cV1p (q := 14) (c_X13_kept (g := (md_addsRun g l c).2.2) (O := jk_set O 12 (md_addsRun g l c).1) (b := g) (h := h) hm (by unfold md_res; rw [jk_row_ne _ _ (by omega), jk_row_same]) (jk_row_same _ _ _) (by unfold md_res; rw [jk_row_ne _ _ (by omega), jk_row_ne _ _ (by omega)]; exact jk_row_same _ _ _) hok.2 hgz (by unfold md_res; rw [jk_row_ne _ _ (by omega), jk_row_ne _ _ (by omega)]; exact (jk_row_ne _ _ (by omega)).trans hh) (by rw [jk_set_ne _ _ (by decide)]; exact ho3) (by rw [jk_set_at]; omega)) jm_X13_kept jw_1945 rfl (by first | exact hm.1 | exact hm.2.1 _ _ rfl | assumption) rfl rfl rfl dX13_addBackwardRun_11 rfl ?_
  exact jk_iret rfl dX13_addBackwardRun_14 (by refine ⟨?_, rfl, rfl, rfl, rfl⟩; unfold md_pubV; rw [jk_set_at])
theorem c_X13_exclude {G : jk_G} {n : Nat} {t : jk_T} {σ : jk_I} {ρ : jk_P} {m : Nat} {g b h O : Int → Int} {B : Int} {l : Int} (hm : md_at t ρ m) (hg : σ (m + 2) = g) (hi : md_inv B g) (ho : σ m = O) (hb4 : σ (m + 4) = b) (hgz : md_zf 240 g) (hbz : md_zf 240 b) (hh : σ (m + 6) = h) (ho3 : 0 ≤ O 3 ∧ O 3 ≤ 8) (hl : jk_in l) : jk_K G yX13_exclude mX13_exclude 0 0 [.ref m, jI l] n t σ ρ (jk_q (some (jI (md_pubV (md_marks g l 0)))) n t (md_pub (jk_row σ (m + 4) g) m O h g (md_marks g l 0)) ρ) jk_no := by
  refine jk_entryB (ls := [some (.ref m), some (jI l)]) jm_X13_exclude.1 rfl rfl rfl ?_
  have hok := md_marks_ok hi hgz (l := l) (w := 0)
  have hk1 := hok.1
  refine jk_aload_n (q := 1) dX13_exclude_0 rfl rfl ?_
  refine jk_cV0v (q := 4) (c_X13_begin hm hg hb4 hgz hbz) jm_X13_begin jw_1926 rfl (by first | exact hm.1 | exact hm.2.1 _ _ rfl | assumption) rfl rfl rfl dX13_exclude_1 rfl ?_
  refine jk_aload_n (q := 5) dX13_exclude_4 rfl rfl ?_
  refine jk_aload_n (q := 6) dX13_exclude_5 rfl rfl ?_
  refine jk_iload_n (q := 7) dX13_exclude_6 rfl rfl ?_
  refine jk_iconst (q := 8) dX13_exclude_7 rfl ?_
  refine jk_cV2p (q := 11) (c_X13_marks hm ((jk_row_ne _ _ (by omega)).trans hg) hi ((jk_row_ne _ _ (by omega)).trans ho) hl (Or.inl rfl)) jm_X13_marks jw_2002 rfl (by first | exact hm.1 | exact hm.2.1 _ _ rfl | assumption) rfl rfl rfl dX13_exclude_8 rfl ?_
  refine jk_cV1p (q := 14) (c_X13_kept (g := (md_marks g l 0).2.2) (O := jk_set O 12 (md_marks g l 0).1) (b := g) (h := h) hm (by unfold md_res; rw [jk_row_ne _ _ (by omega), jk_row_same]) (jk_row_same _ _ _) (by unfold md_res; rw [jk_row_ne _ _ (by omega), jk_row_ne _ _ (by omega)]; exact jk_row_same _ _ _) hok.2 hgz (by unfold md_res; rw [jk_row_ne _ _ (by omega), jk_row_ne _ _ (by omega)]; exact (jk_row_ne _ _ (by omega)).trans hh) (by rw [jk_set_ne _ _ (by decide)]; exact ho3) (by rw [jk_set_at]; omega)) jm_X13_kept jw_1945 rfl (by first | exact hm.1 | exact hm.2.1 _ _ rfl | assumption) rfl rfl rfl dX13_exclude_11 rfl ?_
  exact jk_iret rfl dX13_exclude_14 (by refine ⟨?_, rfl, rfl, rfl, rfl⟩; unfold md_pubV; rw [jk_set_at])
theorem c_X13_include {G : jk_G} {n : Nat} {t : jk_T} {σ : jk_I} {ρ : jk_P} {m : Nat} {g b h O : Int → Int} {B : Int} {l : Int} (hm : md_at t ρ m) (hg : σ (m + 2) = g) (hi : md_inv B g) (ho : σ m = O) (hb4 : σ (m + 4) = b) (hgz : md_zf 240 g) (hbz : md_zf 240 b) (hh : σ (m + 6) = h) (ho3 : 0 ≤ O 3 ∧ O 3 ≤ 8) (hl : jk_in l) : jk_K G yX13_include mX13_include 0 0 [.ref m, jI l] n t σ ρ (jk_q (some (jI (md_pubV (md_marks g l 1)))) n t (md_pub (jk_row σ (m + 4) g) m O h g (md_marks g l 1)) ρ) jk_no := by
  refine jk_entryB (ls := [some (.ref m), some (jI l)]) jm_X13_include.1 rfl rfl rfl ?_
  have hok := md_marks_ok hi hgz (l := l) (w := 1)
  have hk1 := hok.1
  refine jk_aload_n (q := 1) dX13_include_0 rfl rfl ?_
  refine jk_cV0v (q := 4) (c_X13_begin hm hg hb4 hgz hbz) jm_X13_begin jw_1926 rfl (by first | exact hm.1 | exact hm.2.1 _ _ rfl | assumption) rfl rfl rfl dX13_include_1 rfl ?_
  refine jk_aload_n (q := 5) dX13_include_4 rfl rfl ?_
  refine jk_aload_n (q := 6) dX13_include_5 rfl rfl ?_
  refine jk_iload_n (q := 7) dX13_include_6 rfl rfl ?_
  refine jk_iconst (q := 8) dX13_include_7 rfl ?_
  refine jk_cV2p (q := 11) (c_X13_marks hm ((jk_row_ne _ _ (by omega)).trans hg) hi ((jk_row_ne _ _ (by omega)).trans ho) hl (Or.inr rfl)) jm_X13_marks jw_2002 rfl (by first | exact hm.1 | exact hm.2.1 _ _ rfl | assumption) rfl rfl rfl dX13_include_8 rfl ?_
  refine jk_cV1p (q := 14) (c_X13_kept (g := (md_marks g l 1).2.2) (O := jk_set O 12 (md_marks g l 1).1) (b := g) (h := h) hm (by unfold md_res; rw [jk_row_ne _ _ (by omega), jk_row_same]) (jk_row_same _ _ _) (by unfold md_res; rw [jk_row_ne _ _ (by omega), jk_row_ne _ _ (by omega)]; exact jk_row_same _ _ _) hok.2 hgz (by unfold md_res; rw [jk_row_ne _ _ (by omega), jk_row_ne _ _ (by omega)]; exact (jk_row_ne _ _ (by omega)).trans hh) (by rw [jk_set_ne _ _ (by decide)]; exact ho3) (by rw [jk_set_at]; omega)) jm_X13_kept jw_1945 rfl (by first | exact hm.1 | exact hm.2.1 _ _ rfl | assumption) rfl rfl rfl dX13_include_11 rfl ?_
  exact jk_iret rfl dX13_include_14 (by refine ⟨?_, rfl, rfl, rfl, rfl⟩; unfold md_pubV; rw [jk_set_at])
theorem c_X13_resetCorrections {G : jk_G} {n : Nat} {t : jk_T} {σ : jk_I} {ρ : jk_P} {m : Nat} {g b h O : Int → Int} {B : Int} (hm : md_at t ρ m) (hg : σ (m + 2) = g) (hi : md_inv B g) (ho : σ m = O) (hb4 : σ (m + 4) = b) (hgz : md_zf 240 g) (hbz : md_zf 240 b) (hh : σ (m + 6) = h) (ho3 : 0 ≤ O 3 ∧ O 3 ≤ 8)  : jk_K G yX13_resetCorrections mX13_resetCorrections 0 0 [.ref m] n t σ ρ (jk_q (some (jI (md_pubV (md_resets g)))) n t (md_pub (jk_row σ (m + 4) g) m O h g (md_resets g)) ρ) jk_no := by
  refine jk_entryB (ls := [some (.ref m)]) jm_X13_resetCorrections.1 rfl rfl rfl ?_
  have hok := md_resets_ok hi hgz
  have hk1 := hok.1
  refine jk_aload_n (q := 1) dX13_resetCorrections_0 rfl rfl ?_
  refine jk_cV0v (q := 4) (c_X13_begin hm hg hb4 hgz hbz) jm_X13_begin jw_1926 rfl (by first | exact hm.1 | exact hm.2.1 _ _ rfl | assumption) rfl rfl rfl dX13_resetCorrections_1 rfl ?_
  refine jk_aload_n (q := 5) dX13_resetCorrections_4 rfl rfl ?_
  refine jk_aload_n (q := 6) dX13_resetCorrections_5 rfl rfl ?_
  refine jk_cV0p (q := 9) (c_X13_resets hm ((jk_row_ne _ _ (by omega)).trans hg) hi ((jk_row_ne _ _ (by omega)).trans ho) ) jm_X13_resets jw_2095 rfl (by first | exact hm.1 | exact hm.2.1 _ _ rfl | assumption) rfl rfl rfl dX13_resetCorrections_6 rfl ?_
  refine jk_cV1p (q := 12) (c_X13_kept (g := (md_resets g).2.2) (O := jk_set O 12 (md_resets g).1) (b := g) (h := h) hm (by unfold md_res; rw [jk_row_ne _ _ (by omega), jk_row_same]) (jk_row_same _ _ _) (by unfold md_res; rw [jk_row_ne _ _ (by omega), jk_row_ne _ _ (by omega)]; exact jk_row_same _ _ _) hok.2 hgz (by unfold md_res; rw [jk_row_ne _ _ (by omega), jk_row_ne _ _ (by omega)]; exact (jk_row_ne _ _ (by omega)).trans hh) (by rw [jk_set_ne _ _ (by decide)]; exact ho3) (by rw [jk_set_at]; omega)) jm_X13_kept jw_1945 rfl (by first | exact hm.1 | exact hm.2.1 _ _ rfl | assumption) rfl rfl rfl dX13_resetCorrections_9 rfl ?_
  exact jk_iret rfl dX13_resetCorrections_12 (by refine ⟨?_, rfl, rfl, rfl, rfl⟩; unfold md_pubV; rw [jk_set_at])
theorem c_X13_addProfile {G : jk_G} {n : Nat} {t : jk_T} {σ : jk_I} {ρ : jk_P} {m : Nat} {g b h O : Int → Int} {B : Int} {p : Int} (hm : md_at t ρ m) (hg : σ (m + 2) = g) (hi : md_inv B g) (ho : σ m = O) (hb4 : σ (m + 4) = b) (hgz : md_zf 240 g) (hbz : md_zf 240 b) (hh : σ (m + 6) = h) (ho3 : 0 ≤ O 3 ∧ O 3 ≤ 8) (hp : jk_in p) : jk_K G yX13_addProfile mX13_addProfile 0 0 [.ref m, jI p] n t σ ρ (jk_q (some (jI (md_pubV (md_addsProfile g p)))) n t (md_pub (jk_row σ (m + 4) g) m O h g (md_addsProfile g p)) ρ) jk_no := by
  refine jk_entryB (ls := [some (.ref m), some (jI p)]) jm_X13_addProfile.1 rfl rfl rfl ?_
  have hok := md_addsProfile_ok hi hgz (p := p)
  have hk1 := hok.1
  refine jk_aload_n (q := 1) dX13_addProfile_0 rfl rfl ?_
  refine jk_cV0v (q := 4) (c_X13_begin hm hg hb4 hgz hbz) jm_X13_begin jw_1926 rfl (by first | exact hm.1 | exact hm.2.1 _ _ rfl | assumption) rfl rfl rfl dX13_addProfile_1 rfl ?_
  refine jk_aload_n (q := 5) dX13_addProfile_4 rfl rfl ?_
  refine jk_aload_n (q := 6) dX13_addProfile_5 rfl rfl ?_
  refine jk_iload_n (q := 7) dX13_addProfile_6 rfl rfl ?_
  refine jk_cV1p (q := 10) (c_X13_addsProfile hm ((jk_row_ne _ _ (by omega)).trans hg) hi ((jk_row_ne _ _ (by omega)).trans ho) hp) jm_X13_addsProfile jw_2103 rfl (by first | exact hm.1 | exact hm.2.1 _ _ rfl | assumption) rfl rfl rfl dX13_addProfile_7 rfl ?_
  refine jk_cV1p (q := 13) (c_X13_kept (g := (md_addsProfile g p).2.2) (O := jk_set O 12 (md_addsProfile g p).1) (b := g) (h := h) hm (by unfold md_res; rw [jk_row_ne _ _ (by omega), jk_row_same]) (jk_row_same _ _ _) (by unfold md_res; rw [jk_row_ne _ _ (by omega), jk_row_ne _ _ (by omega)]; exact jk_row_same _ _ _) hok.2 hgz (by unfold md_res; rw [jk_row_ne _ _ (by omega), jk_row_ne _ _ (by omega)]; exact (jk_row_ne _ _ (by omega)).trans hh) (by rw [jk_set_ne _ _ (by decide)]; exact ho3) (by rw [jk_set_at]; omega)) jm_X13_kept jw_1945 rfl (by first | exact hm.1 | exact hm.2.1 _ _ rfl | assumption) rfl rfl rfl dX13_addProfile_10 rfl ?_
  exact jk_iret rfl dX13_addProfile_13 (by refine ⟨?_, rfl, rfl, rfl, rfl⟩; unfold md_pubV; rw [jk_set_at])
theorem c_X13_addStation {G : jk_G} {n : Nat} {t : jk_T} {σ : jk_I} {ρ : jk_P} {m : Nat} {g b h O : Int → Int} {B : Int} {q d f : Int} (hm : md_at t ρ m) (hg : σ (m + 2) = g) (hi : md_inv B g) (ho : σ m = O) (hb4 : σ (m + 4) = b) (hgz : md_zf 240 g) (hbz : md_zf 240 b) (hh : σ (m + 6) = h) (ho3 : 0 ≤ O 3 ∧ O 3 ≤ 8) (hq : jk_in q) (hd : jk_in d) (hf : jk_in f) : jk_K G yX13_addStation mX13_addStation 0 0 [.ref m, jI q, jI d, jI f] n t σ ρ (jk_q (some (jI (md_pubV (md_addsStation g q d f)))) n t (md_pub (jk_row σ (m + 4) g) m O h g (md_addsStation g q d f)) ρ) jk_no := by
  refine jk_entryB (ls := [some (.ref m), some (jI q), some (jI d), some (jI f)]) jm_X13_addStation.1 rfl rfl rfl ?_
  have hok := md_addsStation_ok hi hgz (q := q) (d := d) (f := f)
  have hk1 := hok.1
  refine jk_aload_n (q := 1) dX13_addStation_0 rfl rfl ?_
  refine jk_cV0v (q := 4) (c_X13_begin hm hg hb4 hgz hbz) jm_X13_begin jw_1926 rfl (by first | exact hm.1 | exact hm.2.1 _ _ rfl | assumption) rfl rfl rfl dX13_addStation_1 rfl ?_
  refine jk_aload_n (q := 5) dX13_addStation_4 rfl rfl ?_
  refine jk_aload_n (q := 6) dX13_addStation_5 rfl rfl ?_
  refine jk_iload_n (q := 7) dX13_addStation_6 rfl rfl ?_
  refine jk_iload_n (q := 8) dX13_addStation_7 rfl rfl ?_
  refine jk_iload_n (q := 9) dX13_addStation_8 rfl rfl ?_
  refine jk_cV3p (q := 12) (c_X13_addsStation hm ((jk_row_ne _ _ (by omega)).trans hg) hi ((jk_row_ne _ _ (by omega)).trans ho) hq hd hf) jm_X13_addsStation jw_2111 rfl (by first | exact hm.1 | exact hm.2.1 _ _ rfl | assumption) rfl rfl rfl dX13_addStation_9 rfl ?_
  refine jk_cV1p (q := 15) (c_X13_kept (g := (md_addsStation g q d f).2.2) (O := jk_set O 12 (md_addsStation g q d f).1) (b := g) (h := h) hm (by unfold md_res; rw [jk_row_ne _ _ (by omega), jk_row_same]) (jk_row_same _ _ _) (by unfold md_res; rw [jk_row_ne _ _ (by omega), jk_row_ne _ _ (by omega)]; exact jk_row_same _ _ _) hok.2 hgz (by unfold md_res; rw [jk_row_ne _ _ (by omega), jk_row_ne _ _ (by omega)]; exact (jk_row_ne _ _ (by omega)).trans hh) (by rw [jk_set_ne _ _ (by decide)]; exact ho3) (by rw [jk_set_at]; omega)) jm_X13_kept jw_1945 rfl (by first | exact hm.1 | exact hm.2.1 _ _ rfl | assumption) rfl rfl rfl dX13_addStation_12 rfl ?_
  exact jk_iret rfl dX13_addStation_15 (by refine ⟨?_, rfl, rfl, rfl, rfl⟩; unfold md_pubV; rw [jk_set_at])
theorem c_X13_setWaterLevel {G : jk_G} {n : Nat} {t : jk_T} {σ : jk_I} {ρ : jk_P} {m : Nat} {g b h O : Int → Int} {B : Int} {w : Int} (hm : md_at t ρ m) (hg : σ (m + 2) = g) (hi : md_inv B g) (ho : σ m = O) (hb4 : σ (m + 4) = b) (hgz : md_zf 240 g) (hbz : md_zf 240 b) (hh : σ (m + 6) = h) (ho3 : 0 ≤ O 3 ∧ O 3 ≤ 8) (hw : jk_in w) : jk_K G yX13_setWaterLevel mX13_setWaterLevel 0 0 [.ref m, jI w] n t σ ρ (jk_q (some (jI (md_pubV (md_setsWater g w)))) n t (md_pub (jk_row σ (m + 4) g) m O h g (md_setsWater g w)) ρ) jk_no := by
  refine jk_entryB (ls := [some (.ref m), some (jI w)]) jm_X13_setWaterLevel.1 rfl rfl rfl ?_
  have hok := md_setsWater_ok hi hgz (w := w)
  have hk1 := hok.1
  refine jk_aload_n (q := 1) dX13_setWaterLevel_0 rfl rfl ?_
  refine jk_cV0v (q := 4) (c_X13_begin hm hg hb4 hgz hbz) jm_X13_begin jw_1926 rfl (by first | exact hm.1 | exact hm.2.1 _ _ rfl | assumption) rfl rfl rfl dX13_setWaterLevel_1 rfl ?_
  refine jk_aload_n (q := 5) dX13_setWaterLevel_4 rfl rfl ?_
  refine jk_aload_n (q := 6) dX13_setWaterLevel_5 rfl rfl ?_
  refine jk_iload_n (q := 7) dX13_setWaterLevel_6 rfl rfl ?_
  refine jk_cV1p (q := 10) (c_X13_setsWater hm ((jk_row_ne _ _ (by omega)).trans hg) hi ((jk_row_ne _ _ (by omega)).trans ho) hw) jm_X13_setsWater jw_2127 rfl (by first | exact hm.1 | exact hm.2.1 _ _ rfl | assumption) rfl rfl rfl dX13_setWaterLevel_7 rfl ?_
  refine jk_cV1p (q := 13) (c_X13_kept (g := (md_setsWater g w).2.2) (O := jk_set O 12 (md_setsWater g w).1) (b := g) (h := h) hm (by unfold md_res; rw [jk_row_ne _ _ (by omega), jk_row_same]) (jk_row_same _ _ _) (by unfold md_res; rw [jk_row_ne _ _ (by omega), jk_row_ne _ _ (by omega)]; exact jk_row_same _ _ _) hok.2 hgz (by unfold md_res; rw [jk_row_ne _ _ (by omega), jk_row_ne _ _ (by omega)]; exact (jk_row_ne _ _ (by omega)).trans hh) (by rw [jk_set_ne _ _ (by decide)]; exact ho3) (by rw [jk_set_at]; omega)) jm_X13_kept jw_1945 rfl (by first | exact hm.1 | exact hm.2.1 _ _ rfl | assumption) rfl rfl rfl dX13_setWaterLevel_10 rfl ?_
  exact jk_iret rfl dX13_setWaterLevel_13 (by refine ⟨?_, rfl, rfl, rfl, rfl⟩; unfold md_pubV; rw [jk_set_at])
theorem md_shS_ne (σ : jk_I) (m : Nat) (g : Int → Int) (l : Int) {a : Nat} (h : a ≠ m + 14 ∧ a ≠ m + 16 ∧ a ≠ m + 18 ∧ a ≠ m + 20 ∧ a ≠ m + 22 ∧ a ≠ m + 26 ∧ a ≠ m + 24) : md_shS σ m g l a = σ a := by
  have h6 : a ≠ m + 14 ∧ a ≠ m + 16 ∧ a ≠ m + 18 ∧ a ≠ m + 20 ∧ a ≠ m + 22 ∧ a ≠ m + 26 := ⟨h.1, h.2.1, h.2.2.1, h.2.2.2.1, h.2.2.2.2.1, h.2.2.2.2.2.1⟩
  unfold md_shS
  split
  · exact md_whyS_ne _ _ _ _ h6
  · split
    · exact md_lp_ne _ _ _ _ h6
    · rw [jk_row_ne _ _ h.2.2.2.2.2.2]; exact md_lp_ne _ _ _ _ h6
theorem md_z_row {σ : jk_I} {m : Nat} (h : md_z σ m) {a : Nat} (x : Int → Int) (ha : a ≠ m + 14 ∧ a ≠ m + 22 ∧ a ≠ m + 24) : md_z (jk_row σ a x) m := fun p hp => by
  rw [jk_row_ne _ _ (Ne.symm ha.1), jk_row_ne _ _ (Ne.symm ha.2.1), jk_row_ne _ _ (Ne.symm ha.2.2)]; exact h p hp
theorem md_z10_row {σ : jk_I} {m : Nat} (h : md_z10 σ m) {a : Nat} (x : Int → Int) (ha : a ≠ m + 16 ∧ a ≠ m + 18 ∧ a ≠ m + 20 ∧ a ≠ m + 26) : md_z10 (jk_row σ a x) m := fun p hp => by
  rw [jk_row_ne _ _ (Ne.symm ha.1), jk_row_ne _ _ (Ne.symm ha.2.1), jk_row_ne _ _ (Ne.symm ha.2.2.1), jk_row_ne _ _ (Ne.symm ha.2.2.2)]; exact h p hp
theorem c_X13_shareMisclosure {G : jk_G} {n : Nat} {t : jk_T} {σ : jk_I} {ρ : jk_P} {m : Nat} {g b h O : Int → Int} {B : Int} {l : Int} (hm : md_at t ρ m) (hg : σ (m + 2) = g) (hi : md_inv B g) (ho : σ m = O) (hb4 : σ (m + 4) = b) (hgz : md_zf 240 g) (hbz : md_zf 240 b) (hh : σ (m + 6) = h) (ho3 : 0 ≤ O 3 ∧ O 3 ≤ 8) (hl : jk_in l) (hz : md_z σ m) (hz1 : md_z10 σ m) (hJ : md_loops g) (hw : md_inw g) : jk_K G yX13_shareMisclosure mX13_shareMisclosure 0 0 [.ref m, jI l] n t σ ρ (jk_q (some (jI (md_pubV (md_shares g l)))) n t (md_pub (md_shS (jk_row σ (m + 4) g) m g l) m O h g (md_shares g l)) ρ) jk_no := by
  refine jk_entryB (ls := [some (.ref m), some (jI l)]) jm_X13_shareMisclosure.1 rfl rfl rfl ?_
  have hok := md_shares_ok hi hgz (l := l)
  have hk1 := hok.1
  refine jk_aload_n (q := 1) dX13_shareMisclosure_0 rfl rfl ?_
  refine jk_cV0v (q := 4) (c_X13_begin hm hg hb4 hgz hbz) jm_X13_begin jw_1926 rfl (by first | exact hm.1 | exact hm.2.1 _ _ rfl | assumption) rfl rfl rfl dX13_shareMisclosure_1 rfl ?_
  refine jk_aload_n (q := 5) dX13_shareMisclosure_4 rfl rfl ?_
  refine jk_aload_n (q := 6) dX13_shareMisclosure_5 rfl rfl ?_
  refine jk_iload_n (q := 7) dX13_shareMisclosure_6 rfl rfl ?_
  refine jk_cV1p (q := 10) (c_X13_shares hm ((jk_row_ne _ _ (by omega)).trans hg) hi ((jk_row_ne _ _ (by omega)).trans ho) (md_z_row hz _ ⟨by omega, by omega, by omega⟩) (md_z10_row hz1 _ ⟨by omega, by omega, by omega, by omega⟩) hJ hw hl) jm_X13_shares jw_2028 rfl (by first | exact hm.1 | exact hm.2.1 _ _ rfl | assumption) rfl rfl rfl dX13_shareMisclosure_7 rfl ?_
  refine jk_cV1p (q := 13) (c_X13_kept (g := (md_shares g l).2.2) (O := jk_set O 12 (md_shares g l).1) (b := g) (h := h) hm (by unfold md_res; rw [jk_row_ne _ _ (by omega), jk_row_same]) (jk_row_same _ _ _) (by unfold md_res; rw [jk_row_ne _ _ (by omega), jk_row_ne _ _ (by omega)]; exact (md_shS_ne _ _ _ _ ⟨by omega, by omega, by omega, by omega, by omega, by omega, by omega⟩).trans (jk_row_same _ _ _)) hok.2 hgz (by unfold md_res; rw [jk_row_ne _ _ (by omega), jk_row_ne _ _ (by omega)]; exact (md_shS_ne _ _ _ _ ⟨by omega, by omega, by omega, by omega, by omega, by omega, by omega⟩).trans ((jk_row_ne _ _ (by omega)).trans hh)) (by rw [jk_set_ne _ _ (by decide)]; exact ho3) (by rw [jk_set_at]; omega)) jm_X13_kept jw_1945 rfl (by first | exact hm.1 | exact hm.2.1 _ _ rfl | assumption) rfl rfl rfl dX13_shareMisclosure_10 rfl ?_
  exact jk_iret rfl dX13_shareMisclosure_13 (by refine ⟨?_, rfl, rfl, rfl, rfl⟩; unfold md_pubV; rw [jk_set_at])
end MD12
