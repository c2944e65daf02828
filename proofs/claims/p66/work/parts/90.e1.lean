section E1
/-- what queries may write: the forest, the loop's way, the parts, the heights -/
def ln_fr (x : Nat) (σ σ' : jk_I) : Prop := ∀ a, (a < x + 512 ∨ x + 546 ≤ a) → σ' a = σ a
def ln_RQ (x : Nat) (k : Int) (v : Value) (σ : jk_I) (n : Nat) (t : jk_T) (ρ : jk_P) : jk_Q := fun v' n' t' σ' ρ' => k = 0 ∧ v' = some v ∧ n' = n ∧ t' = t ∧ ρ' = ρ ∧ ln_fr x σ σ'
def ln_RX (x : Nat) (k : Int) (ex : Int → String) (σ : jk_I) (n : Nat) (t : jk_T) (ρ : jk_P) : jk_X := fun E n' t' σ' ρ' => k ≠ 0 ∧ E = ex k ∧ n ≤ n' ∧ t' = t ∧ ρ' = ρ ∧ ln_fr x σ σ'
def ex_1 (a : String) : Int → String := fun _ => a
def ex_2 (a b : String) : Int → String := fun c => if c = 1 then a else b
def ex_3 (a b d : String) : Int → String := fun c => if c = 1 then a else if c = 2 then b else d
section
variable {x n n' : Nat} {t : jk_T} {σ σ' : jk_I} {ρ : jk_P} {ex : Int → String} {E : String}
theorem ln_rx {k c : Int} (hn : n ≤ n') (hf : ln_fr x σ σ') (hk : k = c) (hc : c ≠ 0) (he : E = ex c) : ln_RX x k ex σ n t ρ E n' t σ' ρ := by subst hk; exact ⟨hc, he, hn, rfl, rfl, hf⟩
theorem ln_rqI {r : Int × Int} {v : Int} (hf : ln_fr x σ σ') (h : r = (0, v)) : ln_RQ x r.1 (jI r.2) σ n t ρ (some (jI v)) n t σ' ρ := by subst h; exact ⟨rfl, rfl, rfl, rfl, rfl, hf⟩
theorem ln_rqB {r : Int × Bool} {b : Bool} {v : Int} (hf : ln_fr x σ σ') (h : r = (0, b)) (hv : v = jB b) : ln_RQ x r.1 (jI (jB r.2)) σ n t ρ (some (jI v)) n t σ' ρ := by subst h hv; exact ⟨rfl, rfl, rfl, rfl, rfl, hf⟩
theorem ln_rqV {r : Int × Value} {v : Value} (hf : ln_fr x σ σ') (h : r = (0, v)) : ln_RQ x r.1 r.2 σ n t ρ (some v) n t σ' ρ := by subst h; exact ⟨rfl, rfl, rfl, rfl, rfl, hf⟩
end
theorem fo_ok_same {σ σ1 : jk_I} {f : Nat} {g : Int → Int} (h : ∀ a, f ≤ a → a ≤ f + 8 → σ1 a = σ a) (ho : fo_ok σ f g) : fo_ok σ1 f g := by
  obtain ⟨a, b, c⟩ := ho
  refine ⟨fun l hl => by rw [h _ (by omega) (by omega)]; exact a l hl, fun p hp => by rw [h _ (by omega) (by omega)]; exact b p hp, ?_⟩
  rw [h f (by omega) (by omega), h (f + 2) (by omega) (by omega)]
  exact c
def ln_hQ (b : Bool) (σ : jk_I) (n : Nat) (t : jk_T) (ρ : jk_P) : jk_Q := fun v' n' t' σ' ρ' => v' = none ∧ n' = n ∧ t' = t ∧ ρ' = ρ ∧ b = true ∧ σ' = σ
def ln_hX (b : Bool) (σ : jk_I) (n : Nat) (t : jk_T) (ρ : jk_P) : jk_X := fun E n' t' σ' ρ' => E = "java/lang/IndexOutOfBoundsException" ∧ n ≤ n' ∧ t' = t ∧ ρ' = ρ ∧ b = false ∧ σ' = σ
theorem c_X12_requireBenchmark {G : jk_G} {n : Nat} {t : jk_T} {σ : jk_I} {ρ : jk_P} {x : Nat} {g : Int → Int} {B : Int} {p : Int} (hz : zz_ok G) (hx : zx_ok G) (hln : ln_at t ρ x) (hr : cl_rel σ (x + 2) g) (ha : md_all B g) (hnn : cl_nn σ (x + 2)) (hsi : md_sit g) (hp : jk_in p) : jk_K G yX12_requireBenchmark mX12_requireBenchmark 1 6 [.ref x, jI p] n t σ ρ (ln_hQ (cl_has (g 0) p) σ n t ρ) (ln_hX (cl_has (g 0) p) σ n t ρ) := by
  obtain ⟨hx0, ⟨hx1, hx2, hx3, hx4, hx5, hx6, hx7, hx8, hx9, hx10, hx11, hx12⟩, hB4, hSN, hH, hhe, hba, hch, hsc⟩ := id hln
  obtain ⟨hcc, hwa, hsh, hwy, hyc⟩ := id hch
  obtain ⟨-, -, hfo, hfw⟩ := id hwa
  obtain ⟨-, -, -, -, hs, hsf⟩ := id hfo
  have hi := ha.1
  have hw := ha.2.1
  have hxx := ha.2.2.1
  have i0 := hi.1
  have i1 := hi.2.1
  have i2 := hi.2.2.1
  have i3 := hi.2.2.2.1
  obtain ⟨q0, q1, q2, q3⟩ := hr.1
  have hf0 : ln_fr x σ σ := fun _ _ => rfl
  refine jk_entryB (ls := [some (.ref x), some (jI p)]) jm_X12_requireBenchmark.1 rfl rfl rfl ?_
  refine jk_aload_n (q := 1) dX12_requireBenchmark_0 rfl rfl ?_
  refine jk_getA (q := 4) (k := 12) 0 0 rfl (by first | exact hx0 | exact hs.1 | exact hs.2.1 _ _ rfl | exact hfo.1 | exact hfo.2.1 _ _ rfl | exact hwa.1.1 | exact hwa.1.2.1 | exact hwa.1.2.2 | exact hsh.1.1 | exact hsh.1.2.1 | exact hhe.1.1 | exact hba.1.1 | exact hcc.1 | exact hH.1 | exact hsc.1.1 | exact hB4.1 | exact hSN.1 | assumption) (by first | assumption | exact hs.2.2.1 _ _ rfl | exact hfo.2.2.1 _ _ rfl | exact hwa.2.1.2.2.1 | exact hsh.2.1.2.1) rfl rfl jw_375 dX12_requireBenchmark_1 rfl ?_
  refine jk_iload_n (q := 5) dX12_requireBenchmark_4 rfl rfl ?_
  refine jk_cV1p (q := 8) (c_X9_hasBenchmark hs hr hp (by show jk_in (g 0); exact ⟨by omega, by omega⟩)) jm_X9_hasBenchmark jw_863 rfl (by first | exact hx0 | exact hs.1 | exact hs.2.1 _ _ rfl | exact hfo.1 | exact hfo.2.1 _ _ rfl | exact hwa.1.1 | exact hwa.1.2.1 | exact hwa.1.2.2 | exact hsh.1.1 | exact hsh.1.2.1 | exact hhe.1.1 | exact hba.1.1 | exact hcc.1 | exact hH.1 | exact hsc.1.1 | exact hB4.1 | exact hSN.1 | assumption) rfl rfl rfl dX12_requireBenchmark_5 rfl ?_
  refine jk_ifB_ne (q := 22) (q2 := 11) dX12_requireBenchmark_8 rfl rfl (fun z1 => ?_) (fun z1 => ?_)
  · exact jk_ret rfl dX12_requireBenchmark_22 (by exact ⟨rfl, rfl, rfl, rfl, z1, rfl⟩)
  · exact jk_throwSW (jt_465_374 hx) rfl (by decide) (by decide) (by decide) (by decide) (by decide) dX12_requireBenchmark_11 dX12_requireBenchmark_14 dX12_requireBenchmark_15 dX12_requireBenchmark_18 dX12_requireBenchmark_21 (fun n' hn' => ⟨rfl, hn', rfl, rfl, z1, rfl⟩)
theorem c_X12_requireLine {G : jk_G} {n : Nat} {t : jk_T} {σ : jk_I} {ρ : jk_P} {x : Nat} {g : Int → Int} {B : Int} {p : Int} (hz : zz_ok G) (hx : zx_ok G) (hln : ln_at t ρ x) (hr : cl_rel σ (x + 2) g) (ha : md_all B g) (hnn : cl_nn σ (x + 2)) (hsi : md_sit g) (hp : jk_in p) : jk_K G yX12_requireLine mX12_requireLine 1 6 [.ref x, jI p] n t σ ρ (ln_hQ (cl_has (g 1) p) σ n t ρ) (ln_hX (cl_has (g 1) p) σ n t ρ) := by
  obtain ⟨hx0, ⟨hx1, hx2, hx3, hx4, hx5, hx6, hx7, hx8, hx9, hx10, hx11, hx12⟩, hB4, hSN, hH, hhe, hba, hch, hsc⟩ := id hln
  obtain ⟨hcc, hwa, hsh, hwy, hyc⟩ := id hch
  obtain ⟨-, -, hfo, hfw⟩ := id hwa
  obtain ⟨-, -, -, -, hs, hsf⟩ := id hfo
  have hi := ha.1
  have hw := ha.2.1
  have hxx := ha.2.2.1
  have i0 := hi.1
  have i1 := hi.2.1
  have i2 := hi.2.2.1
  have i3 := hi.2.2.2.1
  obtain ⟨q0, q1, q2, q3⟩ := hr.1
  have hf0 : ln_fr x σ σ := fun _ _ => rfl
  refine jk_entryB (ls := [some (.ref x), some (jI p)]) jm_X12_requireLine.1 rfl rfl rfl ?_
  refine jk_aload_n (q := 1) dX12_requireLine_0 rfl rfl ?_
  refine jk_getA (q := 4) (k := 12) 0 0 rfl (by first | exact hx0 | exact hs.1 | exact hs.2.1 _ _ rfl | exact hfo.1 | exact hfo.2.1 _ _ rfl | exact hwa.1.1 | exact hwa.1.2.1 | exact hwa.1.2.2 | exact hsh.1.1 | exact hsh.1.2.1 | exact hhe.1.1 | exact hba.1.1 | exact hcc.1 | exact hH.1 | exact hsc.1.1 | exact hB4.1 | exact hSN.1 | assumption) (by first | assumption | exact hs.2.2.1 _ _ rfl | exact hfo.2.2.1 _ _ rfl | exact hwa.2.1.2.2.1 | exact hsh.2.1.2.1) rfl rfl jw_375 dX12_requireLine_1 rfl ?_
  refine jk_iload_n (q := 5) dX12_requireLine_4 rfl rfl ?_
  refine jk_cV1p (q := 8) (c_X9_hasLine hs hr hp (by show jk_in (g 1); exact ⟨by omega, by omega⟩)) jm_X9_hasLine jw_948 rfl (by first | exact hx0 | exact hs.1 | exact hs.2.1 _ _ rfl | exact hfo.1 | exact hfo.2.1 _ _ rfl | exact hwa.1.1 | exact hwa.1.2.1 | exact hwa.1.2.2 | exact hsh.1.1 | exact hsh.1.2.1 | exact hhe.1.1 | exact hba.1.1 | exact hcc.1 | exact hH.1 | exact hsc.1.1 | exact hB4.1 | exact hSN.1 | assumption) rfl rfl rfl dX12_requireLine_5 rfl ?_
  refine jk_ifB_ne (q := 22) (q2 := 11) dX12_requireLine_8 rfl rfl (fun z1 => ?_) (fun z1 => ?_)
  · exact jk_ret rfl dX12_requireLine_22 (by exact ⟨rfl, rfl, rfl, rfl, z1, rfl⟩)
  · exact jk_throwSW (jt_470_374 hx) rfl (by decide) (by decide) (by decide) (by decide) (by decide) dX12_requireLine_11 dX12_requireLine_14 dX12_requireLine_15 dX12_requireLine_18 dX12_requireLine_21 (fun n' hn' => ⟨rfl, hn', rfl, rfl, z1, rfl⟩)
theorem c_X12_requireProfile {G : jk_G} {n : Nat} {t : jk_T} {σ : jk_I} {ρ : jk_P} {x : Nat} {g : Int → Int} {B : Int} {p : Int} (hz : zz_ok G) (hx : zx_ok G) (hln : ln_at t ρ x) (hr : cl_rel σ (x + 2) g) (ha : md_all B g) (hnn : cl_nn σ (x + 2)) (hsi : md_sit g) (hp : jk_in p) : jk_K G yX12_requireProfile mX12_requireProfile 1 6 [.ref x, jI p] n t σ ρ (ln_hQ (cl_has (g 2) p) σ n t ρ) (ln_hX (cl_has (g 2) p) σ n t ρ) := by
  obtain ⟨hx0, ⟨hx1, hx2, hx3, hx4, hx5, hx6, hx7, hx8, hx9, hx10, hx11, hx12⟩, hB4, hSN, hH, hhe, hba, hch, hsc⟩ := id hln
  obtain ⟨hcc, hwa, hsh, hwy, hyc⟩ := id hch
  obtain ⟨-, -, hfo, hfw⟩ := id hwa
  obtain ⟨-, -, -, -, hs, hsf⟩ := id hfo
  have hi := ha.1
  have hw := ha.2.1
  have hxx := ha.2.2.1
  have i0 := hi.1
  have i1 := hi.2.1
  have i2 := hi.2.2.1
  have i3 := hi.2.2.2.1
  obtain ⟨q0, q1, q2, q3⟩ := hr.1
  have hf0 : ln_fr x σ σ := fun _ _ => rfl
  refine jk_entryB (ls := [some (.ref x), some (jI p)]) jm_X12_requireProfile.1 rfl rfl rfl ?_
  refine jk_aload_n (q := 1) dX12_requireProfile_0 rfl rfl ?_
  refine jk_getA (q := 4) (k := 12) 0 0 rfl (by first | exact hx0 | exact hs.1 | exact hs.2.1 _ _ rfl | exact hfo.1 | exact hfo.2.1 _ _ rfl | exact hwa.1.1 | exact hwa.1.2.1 | exact hwa.1.2.2 | exact hsh.1.1 | exact hsh.1.2.1 | exact hhe.1.1 | exact hba.1.1 | exact hcc.1 | exact hH.1 | exact hsc.1.1 | exact hB4.1 | exact hSN.1 | assumption) (by first | assumption | exact hs.2.2.1 _ _ rfl | exact hfo.2.2.1 _ _ rfl | exact hwa.2.1.2.2.1 | exact hsh.2.1.2.1) rfl rfl jw_375 dX12_requireProfile_1 rfl ?_
  refine jk_iload_n (q := 5) dX12_requireProfile_4 rfl rfl ?_
  refine jk_cV1p (q := 8) (c_X9_hasProfile hs hr hp (by show jk_in (g 2); exact ⟨by omega, by omega⟩)) jm_X9_hasProfile jw_1080 rfl (by first | exact hx0 | exact hs.1 | exact hs.2.1 _ _ rfl | exact hfo.1 | exact hfo.2.1 _ _ rfl | exact hwa.1.1 | exact hwa.1.2.1 | exact hwa.1.2.2 | exact hsh.1.1 | exact hsh.1.2.1 | exact hhe.1.1 | exact hba.1.1 | exact hcc.1 | exact hH.1 | exact hsc.1.1 | exact hB4.1 | exact hSN.1 | assumption) rfl rfl rfl dX12_requireProfile_5 rfl ?_
  refine jk_ifB_ne (q := 22) (q2 := 11) dX12_requireProfile_8 rfl rfl (fun z1 => ?_) (fun z1 => ?_)
  · exact jk_ret rfl dX12_requireProfile_22 (by exact ⟨rfl, rfl, rfl, rfl, z1, rfl⟩)
  · exact jk_throwSW (jt_475_374 hx) rfl (by decide) (by decide) (by decide) (by decide) (by decide) dX12_requireProfile_11 dX12_requireProfile_14 dX12_requireProfile_15 dX12_requireProfile_18 dX12_requireProfile_21 (fun n' hn' => ⟨rfl, hn', rfl, rfl, z1, rfl⟩)
theorem c_X12_requireHeight {G : jk_G} {n : Nat} {t : jk_T} {σ : jk_I} {ρ : jk_P} {x : Nat} {g : Int → Int} {B : Int} {p : Int} (hz : zz_ok G) (hx : zx_ok G) (hln : ln_at t ρ x) (hr : cl_rel σ (x + 2) g) (ha : md_all B g) (hnn : cl_nn σ (x + 2)) (hsi : md_sit g) (hp : 0 ≤ p ∧ p < g 0) : jk_K G yX12_requireHeight mX12_requireHeight 1 6 [.ref x, jI p] n t σ ρ (fun v' n' t' σ' ρ' => v' = none ∧ n' = n ∧ t' = t ∧ ρ' = ρ ∧ md_hi g (md_Ro g) p = true ∧ ln_fr x σ σ' ∧ fo_ok σ' (x + 512) g) (fun E n' t' σ' ρ' => E = "java/util/NoSuchElementException" ∧ n ≤ n' ∧ t' = t ∧ ρ' = ρ ∧ md_hi g (md_Ro g) p = false ∧ ln_fr x σ σ') := by
  obtain ⟨hx0, ⟨hx1, hx2, hx3, hx4, hx5, hx6, hx7, hx8, hx9, hx10, hx11, hx12⟩, hB4, hSN, hH, hhe, hba, hch, hsc⟩ := id hln
  obtain ⟨hcc, hwa, hsh, hwy, hyc⟩ := id hch
  obtain ⟨-, -, hfo, hfw⟩ := id hwa
  obtain ⟨-, -, -, -, hs, hsf⟩ := id hfo
  have hi := ha.1
  have hw := ha.2.1
  have hxx := ha.2.2.1
  have i0 := hi.1
  have i1 := hi.2.1
  have i2 := hi.2.2.1
  have i3 := hi.2.2.2.1
  obtain ⟨q0, q1, q2, q3⟩ := hr.1
  have hf0 : ln_fr x σ σ := fun _ _ => rfl
  refine jk_entryB (ls := [some (.ref x), some (jI p)]) jm_X12_requireHeight.1 rfl rfl rfl ?_
  refine jk_aload_n (q := 1) dX12_requireHeight_0 rfl rfl ?_
  refine jk_getA (q := 4) (k := 12) 5 5 rfl (by first | exact hx0 | exact hs.1 | exact hs.2.1 _ _ rfl | exact hfo.1 | exact hfo.2.1 _ _ rfl | exact hwa.1.1 | exact hwa.1.2.1 | exact hwa.1.2.2 | exact hsh.1.1 | exact hsh.1.2.1 | exact hhe.1.1 | exact hba.1.1 | exact hcc.1 | exact hH.1 | exact hsc.1.1 | exact hB4.1 | exact hSN.1 | assumption) (by first | assumption | exact hs.2.2.1 _ _ rfl | exact hfo.2.2.1 _ _ rfl | exact hwa.2.1.2.2.1 | exact hsh.2.1.2.1) rfl rfl jw_380 dX12_requireHeight_1 rfl ?_
  refine jk_cV0g (q := 7) (c_X3_find hfo hr hi hw) jm_X3_find jw_865 rfl (by first | exact hx0 | exact hs.1 | exact hs.2.1 _ _ rfl | exact hfo.1 | exact hfo.2.1 _ _ rfl | exact hwa.1.1 | exact hwa.1.2.1 | exact hwa.1.2.2 | exact hsh.1.1 | exact hsh.1.2.1 | exact hhe.1.1 | exact hba.1.1 | exact hcc.1 | exact hH.1 | exact hsc.1.1 | exact hB4.1 | exact hSN.1 | assumption) rfl rfl (Nat.zero_le _) (Nat.zero_le _) rfl dX12_requireHeight_4 rfl (fun v' n' t' σ1 ρ' hq => ?_) (fun _ _ _ _ _ h => h.elim)
  obtain ⟨rfl, hn9, ht9, hr9, hp1⟩ := hq
  replace hn9 := hn9.symm; replace ht9 := ht9.symm; replace hr9 := hr9.symm; subst hn9 ht9 hr9
  simp only [Option.toList_some, Option.toList_none, List.cons_append, List.nil_append, Nat.sub_zero]
  have hf1 : ln_fr x σ σ1 := fun a h => (hp1.1 a (by omega) (by omega) (by omega) (by omega)).trans (hf0 a h)
  have hr1 : cl_rel σ1 (x + 2) g := cl_rel_same i2.2 (fun a h1 h2 => hf1 a (Or.inl (by omega))) hr
  have ho1 := hp1.2
  refine jk_aload_n (q := 8) dX12_requireHeight_7 rfl rfl ?_
  refine jk_getA (q := 11) (k := 12) 8 8 rfl (by first | exact hx0 | exact hs.1 | exact hs.2.1 _ _ rfl | exact hfo.1 | exact hfo.2.1 _ _ rfl | exact hwa.1.1 | exact hwa.1.2.1 | exact hwa.1.2.2 | exact hsh.1.1 | exact hsh.1.2.1 | exact hhe.1.1 | exact hba.1.1 | exact hcc.1 | exact hH.1 | exact hsc.1.1 | exact hB4.1 | exact hSN.1 | assumption) (by first | assumption | exact hs.2.2.1 _ _ rfl | exact hfo.2.2.1 _ _ rfl | exact hwa.2.1.2.2.1 | exact hsh.2.1.2.1) rfl rfl jw_383 dX12_requireHeight_8 rfl ?_
  refine jk_iload_n (q := 12) dX12_requireHeight_11 rfl rfl ?_
  refine jk_cV1p (q := 15) (c_X4_exists hhe hr1 hi ho1 hp) jm_X4_exists jw_866 rfl (by first | exact hx0 | exact hs.1 | exact hs.2.1 _ _ rfl | exact hfo.1 | exact hfo.2.1 _ _ rfl | exact hwa.1.1 | exact hwa.1.2.1 | exact hwa.1.2.2 | exact hsh.1.1 | exact hsh.1.2.1 | exact hhe.1.1 | exact hba.1.1 | exact hcc.1 | exact hH.1 | exact hsc.1.1 | exact hB4.1 | exact hSN.1 | assumption) rfl rfl rfl dX12_requireHeight_12 rfl ?_
  refine jk_ifB_ne (q := 29) (q2 := 18) dX12_requireHeight_15 rfl rfl (fun z1 => ?_) (fun z1 => ?_)
  · exact jk_ret rfl dX12_requireHeight_29 (by exact ⟨rfl, rfl, rfl, rfl, z1, hf1, ho1⟩)
  · exact jk_throwXW (jt_477_173 hx) rfl (by decide) (by decide) (by decide) (by decide) (by decide) dX12_requireHeight_18 dX12_requireHeight_21 dX12_requireHeight_22 dX12_requireHeight_25 dX12_requireHeight_28 (fun n' hn' => ⟨rfl, hn', rfl, rfl, z1, hf1⟩)
theorem c_X12_traceLoop {G : jk_G} {n : Nat} {t : jk_T} {σ : jk_I} {ρ : jk_P} {x : Nat} {g : Int → Int} {B : Int} {l : Int} (hz : zz_ok G) (hx : zx_ok G) (hln : ln_at t ρ x) (hr : cl_rel σ (x + 2) g) (ha : md_all B g) (hnn : cl_nn σ (x + 2)) (hsi : md_sit g) (hl : 0 ≤ l ∧ l < g 1) : jk_K G yX12_traceLoop mX12_traceLoop 1 6 [.ref x, jI l] n t σ ρ (fun v' n' t' σ' ρ' => v' = none ∧ n' = n ∧ t' = t ∧ ρ' = ρ ∧ md_clo g (md_T g) l = true ∧ ln_fr x σ σ' ∧ fo_ok σ' (x + 512) g ∧ ∃ c, wa_sq σ' (x + 522) c (md_sgn g (md_T g) l) (g 1)) (fun E n' t' σ' ρ' => E = "java/util/NoSuchElementException" ∧ n ≤ n' ∧ t' = t ∧ ρ' = ρ ∧ md_clo g (md_T g) l = false ∧ ln_fr x σ σ') := by
  obtain ⟨hx0, ⟨hx1, hx2, hx3, hx4, hx5, hx6, hx7, hx8, hx9, hx10, hx11, hx12⟩, hB4, hSN, hH, hhe, hba, hch, hsc⟩ := id hln
  obtain ⟨hcc, hwa, hsh, hwy, hyc⟩ := id hch
  obtain ⟨-, -, hfo, hfw⟩ := id hwa
  obtain ⟨-, -, -, -, hs, hsf⟩ := id hfo
  have hi := ha.1
  have hw := ha.2.1
  have hxx := ha.2.2.1
  have i0 := hi.1
  have i1 := hi.2.1
  have i2 := hi.2.2.1
  have i3 := hi.2.2.2.1
  obtain ⟨q0, q1, q2, q3⟩ := hr.1
  have hf0 : ln_fr x σ σ := fun _ _ => rfl
  refine jk_entryB (ls := [some (.ref x), some (jI l)]) jm_X12_traceLoop.1 rfl rfl rfl ?_
  refine jk_aload_n (q := 1) dX12_traceLoop_0 rfl rfl ?_
  refine jk_getA (q := 4) (k := 12) 5 5 rfl (by first | exact hx0 | exact hs.1 | exact hs.2.1 _ _ rfl | exact hfo.1 | exact hfo.2.1 _ _ rfl | exact hwa.1.1 | exact hwa.1.2.1 | exact hwa.1.2.2 | exact hsh.1.1 | exact hsh.1.2.1 | exact hhe.1.1 | exact hba.1.1 | exact hcc.1 | exact hH.1 | exact hsc.1.1 | exact hB4.1 | exact hSN.1 | assumption) (by first | assumption | exact hs.2.2.1 _ _ rfl | exact hfo.2.2.1 _ _ rfl | exact hwa.2.1.2.2.1 | exact hsh.2.1.2.1) rfl rfl jw_380 dX12_traceLoop_1 rfl ?_
  refine jk_cV0g (q := 7) (c_X3_find hfo hr hi hw) jm_X3_find jw_865 rfl (by first | exact hx0 | exact hs.1 | exact hs.2.1 _ _ rfl | exact hfo.1 | exact hfo.2.1 _ _ rfl | exact hwa.1.1 | exact hwa.1.2.1 | exact hwa.1.2.2 | exact hsh.1.1 | exact hsh.1.2.1 | exact hhe.1.1 | exact hba.1.1 | exact hcc.1 | exact hH.1 | exact hsc.1.1 | exact hB4.1 | exact hSN.1 | assumption) rfl rfl (Nat.zero_le _) (Nat.zero_le _) rfl dX12_traceLoop_4 rfl (fun v' n' t' σ1 ρ' hq => ?_) (fun _ _ _ _ _ h => h.elim)
  obtain ⟨rfl, hn9, ht9, hr9, hp1⟩ := hq
  replace hn9 := hn9.symm; replace ht9 := ht9.symm; replace hr9 := hr9.symm; subst hn9 ht9 hr9
  simp only [Option.toList_some, Option.toList_none, List.cons_append, List.nil_append, Nat.sub_zero]
  have hf1 : ln_fr x σ σ1 := fun a h => (hp1.1 a (by omega) (by omega) (by omega) (by omega)).trans (hf0 a h)
  have hr1 : cl_rel σ1 (x + 2) g := cl_rel_same i2.2 (fun a h1 h2 => hf1 a (Or.inl (by omega))) hr
  have ho1 := hp1.2
  refine jk_aload_n (q := 8) dX12_traceLoop_7 rfl rfl ?_
  refine jk_getA (q := 11) (k := 12) 5 5 rfl (by first | exact hx0 | exact hs.1 | exact hs.2.1 _ _ rfl | exact hfo.1 | exact hfo.2.1 _ _ rfl | exact hwa.1.1 | exact hwa.1.2.1 | exact hwa.1.2.2 | exact hsh.1.1 | exact hsh.1.2.1 | exact hhe.1.1 | exact hba.1.1 | exact hcc.1 | exact hH.1 | exact hsc.1.1 | exact hB4.1 | exact hSN.1 | assumption) (by first | assumption | exact hs.2.2.1 _ _ rfl | exact hfo.2.2.1 _ _ rfl | exact hwa.2.1.2.2.1 | exact hsh.2.1.2.1) rfl rfl jw_380 dX12_traceLoop_8 rfl ?_
  refine jk_iload_n (q := 12) dX12_traceLoop_11 rfl rfl ?_
  refine jk_cV1p (q := 15) (c_X3_closesLoop hfo hr1 hi ho1 hl) jm_X3_closesLoop jw_1043 rfl (by first | exact hx0 | exact hs.1 | exact hs.2.1 _ _ rfl | exact hfo.1 | exact hfo.2.1 _ _ rfl | exact hwa.1.1 | exact hwa.1.2.1 | exact hwa.1.2.2 | exact hsh.1.1 | exact hsh.1.2.1 | exact hhe.1.1 | exact hba.1.1 | exact hcc.1 | exact hH.1 | exact hsc.1.1 | exact hB4.1 | exact hSN.1 | assumption) rfl rfl rfl dX12_traceLoop_12 rfl ?_
  refine jk_ifB_ne (q := 29) (q2 := 18) dX12_traceLoop_15 rfl rfl (fun z1 => ?_) (fun z1 => ?_)
  · refine jk_aload_n (q := 30) dX12_traceLoop_29 rfl rfl ?_
    refine jk_getA (q := 33) (k := 12) 6 6 rfl (by first | exact hx0 | exact hs.1 | exact hs.2.1 _ _ rfl | exact hfo.1 | exact hfo.2.1 _ _ rfl | exact hwa.1.1 | exact hwa.1.2.1 | exact hwa.1.2.2 | exact hsh.1.1 | exact hsh.1.2.1 | exact hhe.1.1 | exact hba.1.1 | exact hcc.1 | exact hH.1 | exact hsc.1.1 | exact hB4.1 | exact hSN.1 | assumption) (by first | assumption | exact hs.2.2.1 _ _ rfl | exact hfo.2.2.1 _ _ rfl | exact hwa.2.1.2.2.1 | exact hsh.2.1.2.1) rfl rfl jw_381 dX12_traceLoop_30 rfl ?_
    refine jk_iload_n (q := 34) dX12_traceLoop_33 rfl rfl ?_
    refine jk_cV1g (q := 37) (c_X11_traceLoop hwa hr1 hi ho1 hw hl z1) jm_X11_traceLoop jw_1044 rfl (by first | exact hx0 | exact hs.1 | exact hs.2.1 _ _ rfl | exact hfo.1 | exact hfo.2.1 _ _ rfl | exact hwa.1.1 | exact hwa.1.2.1 | exact hwa.1.2.2 | exact hsh.1.1 | exact hsh.1.2.1 | exact hhe.1.1 | exact hba.1.1 | exact hcc.1 | exact hH.1 | exact hsc.1.1 | exact hB4.1 | exact hSN.1 | assumption) rfl rfl (Nat.zero_le _) (Nat.zero_le _) rfl dX12_traceLoop_34 rfl (fun v' n' t' σ2 ρ' hq => ?_) (fun _ _ _ _ _ h => h.elim)
    obtain ⟨rfl, hn9, ht9, hr9, hp2, c9, hsq⟩ := hq
    replace hn9 := hn9.symm; replace ht9 := ht9.symm; replace hr9 := hr9.symm; subst hn9 ht9 hr9
    simp only [Option.toList_some, Option.toList_none, List.cons_append, List.nil_append, Nat.sub_zero]
    exact jk_ret rfl dX12_traceLoop_37 (by exact ⟨rfl, rfl, rfl, rfl, z1, fun a h => (hp2 a (by omega) (by omega) (by omega)).trans (hf1 a h), fo_ok_same (fun a h1 h2 => hp2 a (by omega) (by omega) (by omega)) ho1, c9, hsq⟩)
  · exact jk_throwXW (jt_455_173 hx) rfl (by decide) (by decide) (by decide) (by decide) (by decide) dX12_traceLoop_18 dX12_traceLoop_21 dX12_traceLoop_22 dX12_traceLoop_25 dX12_traceLoop_28 (fun n' hn' => ⟨rfl, hn', rfl, rfl, z1, hf1⟩)
theorem c_X12_surfaceAt {G : jk_G} {n : Nat} {t : jk_T} {σ : jk_I} {ρ : jk_P} {x : Nat} {g : Int → Int} {B : Int} {q : Nat} (hz : zz_ok G) (hx : zx_ok G) (hln : ln_at t ρ x) (hr : cl_rel σ (x + 2) g) (ha : md_all B g) (hnn : cl_nn σ (x + 2)) (hsi : md_sit g) (ho : fo_ok σ (x + 512) g) (hq : (q : Int) < g 2) (hh : md_hi g (md_Ro g) (g (152 + (q : Int))) = true) : jk_K G yX12_surfaceAt mX12_surfaceAt 0 0 [.ref x, jI (q : Int)] n t σ ρ (fun v' n' t' σ' ρ' => v' = some (jI (g 3 - md_HT g (g (152 + (q : Int))))) ∧ n' = n ∧ t' = t ∧ ρ' = ρ ∧ ln_fr x σ σ' ∧ fo_ok σ' (x + 512) g) jk_no := by
  obtain ⟨hx0, ⟨hx1, hx2, hx3, hx4, hx5, hx6, hx7, hx8, hx9, hx10, hx11, hx12⟩, hB4, hSN, hH, hhe, hba, hch, hsc⟩ := id hln
  obtain ⟨hcc, hwa, hsh, hwy, hyc⟩ := id hch
  obtain ⟨-, -, hfo, hfw⟩ := id hwa
  obtain ⟨-, -, -, -, hs, hsf⟩ := id hfo
  have hi := ha.1
  have hw := ha.2.1
  have hxx := ha.2.2.1
  have i0 := hi.1
  have i1 := hi.2.1
  have i2 := hi.2.2.1
  have i3 := hi.2.2.2.1
  obtain ⟨q0, q1, q2, q3⟩ := hr.1
  have hf0 : ln_fr x σ σ := fun _ _ => rfl
  obtain ⟨r1, r2, r3⟩ := hr.2.2.2 q hq
  have hqi := hi.2.2.2.2.2.2.2.1 (q : Int) ⟨by omega, by omega⟩
  have ho0 := ho
  have hsite := hsi (q : Int) ⟨by omega, hq⟩
  refine jk_entryB (ls := [some (.ref x), some (jI (q : Int))]) jm_X12_surfaceAt.1 rfl rfl rfl ?_
  refine jk_aload_n (q := 1) dX12_surfaceAt_0 rfl rfl ?_
  refine jk_getA (q := 4) (k := 12) 0 0 rfl (by first | exact hx0 | exact hs.1 | exact hs.2.1 _ _ rfl | exact hfo.1 | exact hfo.2.1 _ _ rfl | exact hwa.1.1 | exact hwa.1.2.1 | exact hwa.1.2.2 | exact hsh.1.1 | exact hsh.1.2.1 | exact hhe.1.1 | exact hba.1.1 | exact hcc.1 | exact hH.1 | exact hsc.1.1 | exact hB4.1 | exact hSN.1 | assumption) (by first | assumption | exact hs.2.2.1 _ _ rfl | exact hfo.2.2.1 _ _ rfl | exact hwa.2.1.2.2.1 | exact hsh.2.1.2.1) rfl rfl jw_375 dX12_surfaceAt_1 rfl ?_
  refine jk_getIR (q := 7) (k := 9) 17 17 rfl (by first | exact hx0 | exact hs.1 | exact hs.2.1 _ _ rfl | exact hfo.1 | exact hfo.2.1 _ _ rfl | exact hwa.1.1 | exact hwa.1.2.1 | exact hwa.1.2.2 | exact hsh.1.1 | exact hsh.1.2.1 | exact hhe.1.1 | exact hba.1.1 | exact hcc.1 | exact hH.1 | exact hsc.1.1 | exact hB4.1 | exact hSN.1 | assumption) (by first | exact jk_row_same _ _ _ | ((repeat rewrite [jk_row_ne _ _ (by omega)]); first | exact jk_row_same _ _ _ | rfl)) rfl rfl jw_123 dX12_surfaceAt_4 rfl ?_
  rw [q3]
  refine jk_aload_n (q := 8) dX12_surfaceAt_7 rfl rfl ?_
  refine jk_getA (q := 11) (k := 12) 8 8 rfl (by first | exact hx0 | exact hs.1 | exact hs.2.1 _ _ rfl | exact hfo.1 | exact hfo.2.1 _ _ rfl | exact hwa.1.1 | exact hwa.1.2.1 | exact hwa.1.2.2 | exact hsh.1.1 | exact hsh.1.2.1 | exact hhe.1.1 | exact hba.1.1 | exact hcc.1 | exact hH.1 | exact hsc.1.1 | exact hB4.1 | exact hSN.1 | assumption) (by first | assumption | exact hs.2.2.1 _ _ rfl | exact hfo.2.2.1 _ _ rfl | exact hwa.2.1.2.2.1 | exact hsh.2.1.2.1) rfl rfl jw_383 dX12_surfaceAt_8 rfl ?_
  refine jk_aload_n (q := 12) dX12_surfaceAt_11 rfl rfl ?_
  refine jk_getA (q := 15) (k := 12) 0 0 rfl (by first | exact hx0 | exact hs.1 | exact hs.2.1 _ _ rfl | exact hfo.1 | exact hfo.2.1 _ _ rfl | exact hwa.1.1 | exact hwa.1.2.1 | exact hwa.1.2.2 | exact hsh.1.1 | exact hsh.1.2.1 | exact hhe.1.1 | exact hba.1.1 | exact hcc.1 | exact hH.1 | exact hsc.1.1 | exact hB4.1 | exact hSN.1 | assumption) (by first | assumption | exact hs.2.2.1 _ _ rfl | exact hfo.2.2.1 _ _ rfl | exact hwa.2.1.2.2.1 | exact hsh.2.1.2.1) rfl rfl jw_375 dX12_surfaceAt_12 rfl ?_
  refine jk_getA (q := 18) (k := 9) 13 13 rfl (by first | exact hx0 | exact hs.1 | exact hs.2.1 _ _ rfl | exact hfo.1 | exact hfo.2.1 _ _ rfl | exact hwa.1.1 | exact hwa.1.2.1 | exact hwa.1.2.2 | exact hsh.1.1 | exact hsh.1.2.1 | exact hhe.1.1 | exact hba.1.1 | exact hcc.1 | exact hH.1 | exact hsc.1.1 | exact hB4.1 | exact hSN.1 | assumption) (by first | assumption | exact hs.2.2.1 _ _ rfl | exact hfo.2.2.1 _ _ rfl | exact hwa.2.1.2.2.1 | exact hsh.2.1.2.1) rfl rfl jw_110 dX12_surfaceAt_15 rfl ?_
  refine jk_iload_n (q := 19) dX12_surfaceAt_18 rfl rfl ?_
  refine jk_ialdR (q := 20) (by first | exact hx0 | exact hs.1 | exact hs.2.1 _ _ rfl | exact hfo.1 | exact hfo.2.1 _ _ rfl | exact hwa.1.1 | exact hwa.1.2.1 | exact hwa.1.2.2 | exact hsh.1.1 | exact hsh.1.2.1 | exact hhe.1.1 | exact hba.1.1 | exact hcc.1 | exact hH.1 | exact hsc.1.1 | exact hB4.1 | exact hSN.1 | assumption) (by first | exact jk_row_same _ _ _ | ((repeat rewrite [jk_row_ne _ _ (by omega)]); first | exact jk_row_same _ _ _ | rfl)) (by first | assumption | decide | omega | exact jB_01 _ | exact jB_in _ | exact ⟨by omega, by omega⟩) dX12_surfaceAt_19 rfl ?_
  rw [r1]
  refine jk_cV1g (q := 23) (c_X4_byWay hhe hr hi ho hw ⟨by omega, by omega⟩ hh) jm_X4_byWay jw_883 rfl (by first | exact hx0 | exact hs.1 | exact hs.2.1 _ _ rfl | exact hfo.1 | exact hfo.2.1 _ _ rfl | exact hwa.1.1 | exact hwa.1.2.1 | exact hwa.1.2.2 | exact hsh.1.1 | exact hsh.1.2.1 | exact hhe.1.1 | exact hba.1.1 | exact hcc.1 | exact hH.1 | exact hsc.1.1 | exact hB4.1 | exact hSN.1 | assumption) rfl rfl (Nat.zero_le _) (Nat.zero_le _) rfl dX12_surfaceAt_20 rfl (fun v' n' t' σ1 ρ' hq => ?_) (fun _ _ _ _ _ h => h.elim)
  obtain ⟨rfl, hn9, ht9, hr9, hp1⟩ := hq
  replace hn9 := hn9.symm; replace ht9 := ht9.symm; replace hr9 := hr9.symm; subst hn9 ht9 hr9
  simp only [Option.toList_some, Option.toList_none, List.cons_append, List.nil_append, Nat.sub_zero]
  have hf1 : ln_fr x σ σ1 := fun a h => (hp1 a (by omega)).trans (hf0 a h)
  have hr1 : cl_rel σ1 (x + 2) g := cl_rel_same i2.2 (fun a h1 h2 => hf1 a (Or.inl (by omega))) hr
  have ho1 : fo_ok σ1 (x + 512) g := fo_ok_same (fun a h1 h2 => hp1 a (by omega)) ho0
  refine jk_isub (q := 24) dX12_surfaceAt_23 rfl ?_
  exact jk_iret rfl dX12_surfaceAt_24 (by exact ⟨rfl, rfl, rfl, rfl, hf1, ho1⟩)
end E1
