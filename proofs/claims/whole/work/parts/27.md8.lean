section MD8
theorem jk_set_set {α : Type} (r : Int → α) (i : Int) (v w : α) : jk_set (jk_set r i v) i w = jk_set r i w := by
  funext j; unfold jk_set; split <;> rfl
theorem jk_set_at {α : Type} (r : Int → α) (i : Int) (v : α) : jk_set r i v i = v := if_pos rfl
theorem jk_set_ne {α : Type} (r : Int → α) {i j : Int} (v : α) (h : ¬ j = i) : jk_set r i v j = r j := if_neg h
theorem jk_row_id {α : Type} {f : Nat → Int → α} {a : Nat} {x : Int → α} (h : f a = x) : jk_row f a x = f := by subst h; exact jk_row_self f a
/-- 240 ints copied -/
def md_cpy (F D : Int → Int) (at_ th : Int) (k : Int) : Int → Int := fun p => if th ≤ p ∧ p < th + k then F (p - th + at_) else D p
theorem md_cpy_S (F D : Int → Int) (at_ th : Int) (k : Nat) : jk_set (md_cpy F D at_ th (k : Int)) (th + (k : Int)) (F (at_ + (k : Int))) = md_cpy F D at_ th ((k + 1 : Nat) : Int) := by
  funext p
  unfold jk_set md_cpy
  by_cases hp : p = th + (k : Int)
  · subst hp; rw [if_pos rfl, if_pos (by omega)]; congr 1; omega
  · rw [if_neg hp]
    by_cases h : th ≤ p ∧ p < th + (k : Int)
    · rw [if_pos h, if_pos (by omega)]
    · rw [if_neg h, if_neg (by omega)]
theorem md_cpy_0 (F D : Int → Int) (at_ th : Int) : md_cpy F D at_ th ((0 : Nat) : Int) = D := by funext p; unfold md_cpy; rw [if_neg (by omega)]
theorem c_X13_copy {G : jk_G} {n : Nat} {t : jk_T} {σ : jk_I} {ρ : jk_P} {a b la lb : Nat} {x y : Int} {F D : Int → Int} (hta : t a = some (.inl (.int, la))) (htb : t b = some (.inl (.int, lb))) (hf : σ a = F) (hd : σ b = D) (hab : a ≠ b) (hx : 0 ≤ x ∧ x + 240 ≤ (la : Int)) (hy : 0 ≤ y ∧ y + 240 ≤ (lb : Int)) (hla : la ≤ 100000 ∧ lb ≤ 100000) : jk_K G yX13_copy mX13_copy 0 0 [.ref a, jI x, .ref b, jI y] n t σ ρ (jk_q none n t (jk_row σ b (md_cpy F D x y 240)) ρ) jk_no := by
  refine jk_entryB (ls := [some (.ref a), some (jI x), some (.ref b), some (jI y), none]) jm_X13_copy.1 rfl rfl rfl ?_
  refine jk_iconst (q := 1) dX13_copy_0 rfl ?_
  refine jk_istore4 (q := 3) dX13_copy_1 rfl rfl rfl ?_
  have L3 : ∀ k3 : Nat, k3 ≤ 240 → ∀ (σ1 : jk_I), (hs1 : σ1 = jk_row σ b (md_cpy F D x y (k3 : Int))) → jk_J G mX13_copy 3 [some (.ref a), some (jI x), some (.ref b), some (jI y), some (jI (k3 : Int))] [] n t σ1 ρ 0 0 (jk_q none n t (jk_row σ b (md_cpy F D x y 240)) ρ) jk_no := by
    refine jk_loop _ (fun k3 hk3 ih3 => ?_)
    intro σ1 hs1
    have hf1 : σ1 a = F := by rw [hs1, jk_row_ne _ _ hab]; exact hf
    have hd1 : σ1 b = md_cpy F D x y (k3 : Int) := by rw [hs1, jk_row_same]
    refine jk_iload (q := 5) dX13_copy_3 rfl rfl ?_
    refine jk_sipush (q := 8) (y := 240) dX13_copy_5 rfl (by decide) ?_
    refine jk_icmp_ge (q := 29) (q2 := 11) dX13_copy_8 rfl rfl (by first | decide | omega | exact jB_01 _) (by first | decide | omega | exact jB_01 _) (fun h1 => ?_) (fun h1 => ?_)
    · exact jk_ret rfl dX13_copy_29 (by refine ⟨rfl, rfl, rfl, ?_, rfl⟩; rw [hs1, show k3 = 240 by omega]; rfl)
    · refine jk_aload_n (q := 12) dX13_copy_11 rfl rfl ?_
      refine jk_iload_n (q := 13) dX13_copy_12 rfl rfl ?_
      refine jk_iload (q := 15) dX13_copy_13 rfl rfl ?_
      refine jk_iadd (q := 16) dX13_copy_15 rfl ?_
      refine jk_aload_n (q := 17) dX13_copy_16 rfl rfl ?_
      refine jk_iload_n (q := 18) dX13_copy_17 rfl rfl ?_
      refine jk_iload (q := 20) dX13_copy_18 rfl rfl ?_
      refine jk_iadd (q := 21) dX13_copy_20 rfl ?_
      refine jk_ialdR (q := 22) (by first | exact hta | exact htb) (by first | exact jk_row_same _ _ _ | exact hf1 | exact hd1 | (rewrite [jk_row_ne _ _ (by omega)]; first | exact jk_row_same _ _ _ | exact hf1 | exact hd1 | (rewrite [jk_row_ne _ _ (by omega)]; first | exact jk_row_same _ _ _ | exact hf1 | exact hd1 | (rewrite [jk_row_ne _ _ (by omega)]; first | exact jk_row_same _ _ _ | exact hf1 | exact hd1 | (rewrite [jk_row_ne _ _ (by omega)]; first | exact hf1 | exact hd1 | rfl))))) (by first | decide | omega | exact jB_01 _) dX13_copy_21 rfl ?_
      refine jk_iastR (q := 23) (by first | exact hta | exact htb) (by first | exact jk_row_same _ _ _ | exact hf1 | exact hd1 | (rewrite [jk_row_ne _ _ (by omega)]; first | exact jk_row_same _ _ _ | exact hf1 | exact hd1 | (rewrite [jk_row_ne _ _ (by omega)]; first | exact jk_row_same _ _ _ | exact hf1 | exact hd1 | (rewrite [jk_row_ne _ _ (by omega)]; first | exact jk_row_same _ _ _ | exact hf1 | exact hd1 | (rewrite [jk_row_ne _ _ (by omega)]; first | exact hf1 | exact hd1 | rfl))))) (by first | decide | omega | exact jB_01 _) dX13_copy_22 rfl ?_
      refine jk_iinc4 (q := 26) dX13_copy_23 rfl rfl rfl ?_
      refine jk_goto (q := 3) dX13_copy_26 rfl ?_
      refine ih3 (by omega) _ ?_
      rw [hs1, jk_row_row, md_cpy_S]
  exact L3 0 (Nat.zero_le _) σ (by rw [md_cpy_0, jk_row_id hd])
theorem md_cpy_all {F D : Int → Int} (hF : ∀ p, p < 0 ∨ 240 ≤ p → F p = 0) (hD : ∀ p, p < 0 ∨ 240 ≤ p → D p = 0) : md_cpy F D 0 0 240 = F := by
  funext p; unfold md_cpy
  split
  · congr 1; omega
  · rw [hD p (by omega), hF p (by omega)]
theorem c_X13_begin {G : jk_G} {n : Nat} {t : jk_T} {σ : jk_I} {ρ : jk_P} {m : Nat} {g b : Int → Int} (hm : md_at t ρ m) (hg : σ (m + 2) = g) (hb4 : σ (m + 4) = b) (hgz : ∀ p, p < 0 ∨ 240 ≤ p → g p = 0) (hbz : ∀ p, p < 0 ∨ 240 ≤ p → b p = 0) : jk_K G yX13_begin mX13_begin 0 0 [.ref m] n t σ ρ (jk_q none n t (jk_row σ (m + 4) g) ρ) jk_no := by
  refine jk_entryB (ls := [some (.ref m)]) jm_X13_begin.1 rfl rfl rfl ?_
  refine jk_aload_n (q := 1) dX13_begin_0 rfl rfl ?_
  refine jk_getA (q := 4) (k := 13) 0 0 rfl (by first | exact hm.1 | exact hm.2.1 _ _ rfl | assumption) (by first | exact hm.2.2 _ _ rfl | assumption) rfl rfl jw_1848 dX13_begin_1 rfl ?_
  refine jk_iconst (q := 5) dX13_begin_4 rfl ?_
  refine jk_aload_n (q := 6) dX13_begin_5 rfl rfl ?_
  refine jk_getA (q := 9) (k := 13) 1 1 rfl (by first | exact hm.1 | exact hm.2.1 _ _ rfl | assumption) (by first | exact hm.2.2 _ _ rfl | assumption) rfl rfl jw_1849 dX13_begin_6 rfl ?_
  refine jk_iconst (q := 10) dX13_begin_9 rfl ?_
  refine jk_cS4v (q := 13) (c_X13_copy (hm.2.1 2 _ rfl) (hm.2.1 4 _ rfl) hg hb4 (by omega) (by decide) (by decide) (by decide)) jm_X13_copy jw_1930 rfl rfl rfl dX13_begin_10 rfl ?_
  rw [md_cpy_all hgz hbz]
  exact jk_ret rfl dX13_begin_13 (by exact jk_qr)
def md_th (σ : jk_I) (m : Nat) (O : Int → Int) (k : Int) : jk_I := jk_row σ m (jk_set O 12 k)
theorem c_X13_done {G : jk_G} {n : Nat} {t : jk_T} {σ : jk_I} {ρ : jk_P} {m : Nat} {O : Int → Int} {v : Int} (hm : md_at t ρ m) (ho : σ m = O) : jk_K G yX13_done mX13_done 0 0 [.ref m, jI v] n t σ ρ (jk_q (some (jI v)) n t (md_th σ m O 0) ρ) jk_no := by
  refine jk_entryB (ls := [some (.ref m), some (jI v)]) jm_X13_done.1 rfl rfl rfl ?_
  refine jk_aload_n (q := 1) dX13_done_0 rfl rfl ?_
  refine jk_iconst (q := 2) dX13_done_1 rfl ?_
  refine jk_putIR (q := 5) (k := 13) 12 12 rfl (by first | exact hm.1 | exact hm.2.1 _ _ rfl | assumption) (by first | exact jk_row_same _ _ _ | exact ho | (rewrite [jk_row_ne _ _ (by omega)]; first | exact jk_row_same _ _ _ | exact ho | (rewrite [jk_row_ne _ _ (by omega)]; first | exact jk_row_same _ _ _ | exact ho | (rewrite [jk_row_ne _ _ (by omega)]; first | exact jk_row_same _ _ _ | exact ho | (rewrite [jk_row_ne _ _ (by omega)]; first | exact ho | rfl))))) rfl rfl rfl jw_1860 dX13_done_2 rfl ?_
  refine jk_iload_n (q := 6) dX13_done_5 rfl rfl ?_
  exact jk_iret rfl dX13_done_6 (by exact jk_qr)
theorem c_X13_fails {G : jk_G} {n : Nat} {t : jk_T} {σ : jk_I} {ρ : jk_P} {m : Nat} {O : Int → Int} {v : Int} (hm : md_at t ρ m) (ho : σ m = O) : jk_K G yX13_fails mX13_fails 0 0 [.ref m, jI v] n t σ ρ (jk_q (some (jI 0)) n t (md_th σ m O v) ρ) jk_no := by
  refine jk_entryB (ls := [some (.ref m), some (jI v)]) jm_X13_fails.1 rfl rfl rfl ?_
  refine jk_aload_n (q := 1) dX13_fails_0 rfl rfl ?_
  refine jk_iload_n (q := 2) dX13_fails_1 rfl rfl ?_
  refine jk_putIR (q := 5) (k := 13) 12 12 rfl (by first | exact hm.1 | exact hm.2.1 _ _ rfl | assumption) (by first | exact jk_row_same _ _ _ | exact ho | (rewrite [jk_row_ne _ _ (by omega)]; first | exact jk_row_same _ _ _ | exact ho | (rewrite [jk_row_ne _ _ (by omega)]; first | exact jk_row_same _ _ _ | exact ho | (rewrite [jk_row_ne _ _ (by omega)]; first | exact jk_row_same _ _ _ | exact ho | (rewrite [jk_row_ne _ _ (by omega)]; first | exact ho | rfl))))) rfl rfl rfl jw_1860 dX13_fails_2 rfl ?_
  refine jk_iconst (q := 6) dX13_fails_5 rfl ?_
  exact jk_iret rfl dX13_fails_6 (by exact jk_qr)
theorem c_X13_isPoint {G : jk_G} {n : Nat} {t : jk_T} {σ : jk_I} {ρ : jk_P} {m : Nat} {g : Int → Int} {B : Int} {p : Int} (hm : md_at t ρ m) (hg : σ (m + 2) = g) (hi : md_inv B g) (hp : jk_in p) : jk_K G yX13_isPoint mX13_isPoint 0 0 [.ref m, jI p] n t σ ρ (jk_q (some (jI (jB (md_in p 0 (g 0 - 1))))) n t σ ρ) jk_no := by
  refine jk_entryB (ls := [some (.ref m), some (jI p)]) jm_X13_isPoint.1 rfl rfl rfl ?_
  obtain ⟨i0, i1, i2, -⟩ := id hi
  refine jk_iload_n (q := 1) dX13_isPoint_0 rfl rfl ?_
  refine jk_iconst (q := 2) dX13_isPoint_1 rfl ?_
  refine jk_aload_n (q := 3) dX13_isPoint_2 rfl rfl ?_
  refine jk_getA (q := 6) (k := 13) 0 0 rfl (by first | exact hm.1 | exact hm.2.1 _ _ rfl | assumption) (by first | exact hm.2.2 _ _ rfl | assumption) rfl rfl jw_1848 dX13_isPoint_3 rfl ?_
  refine jk_iconst (q := 7) dX13_isPoint_6 rfl ?_
  refine jk_ialdR (q := 8) (by first | exact hm.1 | exact hm.2.1 _ _ rfl | assumption) (by first | exact jk_row_same _ _ _ | exact hg | (rewrite [jk_row_ne _ _ (by omega)]; first | exact jk_row_same _ _ _ | exact hg | (rewrite [jk_row_ne _ _ (by omega)]; first | exact jk_row_same _ _ _ | exact hg | (rewrite [jk_row_ne _ _ (by omega)]; first | exact jk_row_same _ _ _ | exact hg | (rewrite [jk_row_ne _ _ (by omega)]; first | exact hg | rfl))))) (by first | decide | omega | exact jB_01 _) dX13_isPoint_7 rfl ?_
  refine jk_iconst (q := 9) dX13_isPoint_8 rfl ?_
  refine jk_isub (q := 10) dX13_isPoint_9 rfl ?_
  refine jk_cS3p (q := 13) (c_X13_in hp ⟨by omega, by omega⟩ ⟨by omega, by omega⟩) jm_X13_in jw_1961 rfl rfl rfl dX13_isPoint_10 rfl ?_
  exact jk_zret rfl (by first | decide | omega | exact jB_01 _) dX13_isPoint_13 (by exact jk_qr)
theorem c_X13_isLine {G : jk_G} {n : Nat} {t : jk_T} {σ : jk_I} {ρ : jk_P} {m : Nat} {g : Int → Int} {B : Int} {p : Int} (hm : md_at t ρ m) (hg : σ (m + 2) = g) (hi : md_inv B g) (hp : jk_in p) : jk_K G yX13_isLine mX13_isLine 0 0 [.ref m, jI p] n t σ ρ (jk_q (some (jI (jB (md_in p 0 (g 1 - 1))))) n t σ ρ) jk_no := by
  refine jk_entryB (ls := [some (.ref m), some (jI p)]) jm_X13_isLine.1 rfl rfl rfl ?_
  obtain ⟨i0, i1, i2, -⟩ := id hi
  refine jk_iload_n (q := 1) dX13_isLine_0 rfl rfl ?_
  refine jk_iconst (q := 2) dX13_isLine_1 rfl ?_
  refine jk_aload_n (q := 3) dX13_isLine_2 rfl rfl ?_
  refine jk_getA (q := 6) (k := 13) 0 0 rfl (by first | exact hm.1 | exact hm.2.1 _ _ rfl | assumption) (by first | exact hm.2.2 _ _ rfl | assumption) rfl rfl jw_1848 dX13_isLine_3 rfl ?_
  refine jk_iconst (q := 7) dX13_isLine_6 rfl ?_
  refine jk_ialdR (q := 8) (by first | exact hm.1 | exact hm.2.1 _ _ rfl | assumption) (by first | exact jk_row_same _ _ _ | exact hg | (rewrite [jk_row_ne _ _ (by omega)]; first | exact jk_row_same _ _ _ | exact hg | (rewrite [jk_row_ne _ _ (by omega)]; first | exact jk_row_same _ _ _ | exact hg | (rewrite [jk_row_ne _ _ (by omega)]; first | exact jk_row_same _ _ _ | exact hg | (rewrite [jk_row_ne _ _ (by omega)]; first | exact hg | rfl))))) (by first | decide | omega | exact jB_01 _) dX13_isLine_7 rfl ?_
  refine jk_iconst (q := 9) dX13_isLine_8 rfl ?_
  refine jk_isub (q := 10) dX13_isLine_9 rfl ?_
  refine jk_cS3p (q := 13) (c_X13_in hp ⟨by omega, by omega⟩ ⟨by omega, by omega⟩) jm_X13_in jw_1961 rfl rfl rfl dX13_isLine_10 rfl ?_
  exact jk_zret rfl (by first | decide | omega | exact jB_01 _) dX13_isLine_13 (by exact jk_qr)
theorem c_X13_isProfile {G : jk_G} {n : Nat} {t : jk_T} {σ : jk_I} {ρ : jk_P} {m : Nat} {g : Int → Int} {B : Int} {p : Int} (hm : md_at t ρ m) (hg : σ (m + 2) = g) (hi : md_inv B g) (hp : jk_in p) : jk_K G yX13_isProfile mX13_isProfile 0 0 [.ref m, jI p] n t σ ρ (jk_q (some (jI (jB (md_in p 0 (g 2 - 1))))) n t σ ρ) jk_no := by
  refine jk_entryB (ls := [some (.ref m), some (jI p)]) jm_X13_isProfile.1 rfl rfl rfl ?_
  obtain ⟨i0, i1, i2, -⟩ := id hi
  refine jk_iload_n (q := 1) dX13_isProfile_0 rfl rfl ?_
  refine jk_iconst (q := 2) dX13_isProfile_1 rfl ?_
  refine jk_aload_n (q := 3) dX13_isProfile_2 rfl rfl ?_
  refine jk_getA (q := 6) (k := 13) 0 0 rfl (by first | exact hm.1 | exact hm.2.1 _ _ rfl | assumption) (by first | exact hm.2.2 _ _ rfl | assumption) rfl rfl jw_1848 dX13_isProfile_3 rfl ?_
  refine jk_iconst (q := 7) dX13_isProfile_6 rfl ?_
  refine jk_ialdR (q := 8) (by first | exact hm.1 | exact hm.2.1 _ _ rfl | assumption) (by first | exact jk_row_same _ _ _ | exact hg | (rewrite [jk_row_ne _ _ (by omega)]; first | exact jk_row_same _ _ _ | exact hg | (rewrite [jk_row_ne _ _ (by omega)]; first | exact jk_row_same _ _ _ | exact hg | (rewrite [jk_row_ne _ _ (by omega)]; first | exact jk_row_same _ _ _ | exact hg | (rewrite [jk_row_ne _ _ (by omega)]; first | exact hg | rfl))))) (by first | decide | omega | exact jB_01 _) dX13_isProfile_7 rfl ?_
  refine jk_iconst (q := 9) dX13_isProfile_8 rfl ?_
  refine jk_isub (q := 10) dX13_isProfile_9 rfl ?_
  refine jk_cS3p (q := 13) (c_X13_in hp ⟨by omega, by omega⟩ ⟨by omega, by omega⟩) jm_X13_in jw_1961 rfl rfl rfl dX13_isProfile_10 rfl ?_
  exact jk_zret rfl (by first | decide | omega | exact jB_01 _) dX13_isProfile_13 (by exact jk_qr)
theorem c_X13_distanceOf {G : jk_G} {n : Nat} {t : jk_T} {σ : jk_I} {ρ : jk_P} {m : Nat} {g : Int → Int} {p s : Int} (hm : md_at t ρ m) (hg : σ (m + 2) = g) (hp : 0 ≤ p ∧ p < 4) (hs : 0 ≤ s ∧ s < 10) : jk_K G yX13_distanceOf mX13_distanceOf 0 0 [.ref m, jI p, jI s] n t σ ρ (jk_q (some (jI (g (160 + 10 * p + s)))) n t σ ρ) jk_no := by
  refine jk_entryB (ls := [some (.ref m), some (jI p), some (jI s)]) jm_X13_distanceOf.1 rfl rfl rfl ?_
  refine jk_aload_n (q := 1) dX13_distanceOf_0 rfl rfl ?_
  refine jk_getA (q := 4) (k := 13) 0 0 rfl (by first | exact hm.1 | exact hm.2.1 _ _ rfl | assumption) (by first | exact hm.2.2 _ _ rfl | assumption) rfl rfl jw_1848 dX13_distanceOf_1 rfl ?_
  refine jk_sipush (q := 7) (y := 160) dX13_distanceOf_4 rfl (by decide) ?_
  refine jk_bipush (q := 9) (y := 10) dX13_distanceOf_7 rfl (by decide) ?_
  refine jk_iload_n (q := 10) dX13_distanceOf_9 rfl rfl ?_
  refine jk_imul (q := 11) dX13_distanceOf_10 rfl ?_
  refine jk_iadd (q := 12) dX13_distanceOf_11 rfl ?_
  refine jk_iload_n (q := 13) dX13_distanceOf_12 rfl rfl ?_
  refine jk_iadd (q := 14) dX13_distanceOf_13 rfl ?_
  refine jk_ialdR (q := 15) (by first | exact hm.1 | exact hm.2.1 _ _ rfl | assumption) (by first | exact jk_row_same _ _ _ | exact hg | (rewrite [jk_row_ne _ _ (by omega)]; first | exact jk_row_same _ _ _ | exact hg | (rewrite [jk_row_ne _ _ (by omega)]; first | exact jk_row_same _ _ _ | exact hg | (rewrite [jk_row_ne _ _ (by omega)]; first | exact jk_row_same _ _ _ | exact hg | (rewrite [jk_row_ne _ _ (by omega)]; first | exact hg | rfl))))) (by first | decide | omega | grind) dX13_distanceOf_14 rfl ?_
  exact jk_iret rfl dX13_distanceOf_15 (by exact jk_qr)
def md_h1 (h : Int → Int) (c : Int) : Int → Int := if c = 8 then (fun p => if 0 ≤ p ∧ p < 1680 then h (p + 240) else h p) else h
def md_h2 (h : Int → Int) (c : Int) (b : Int → Int) : Int → Int := md_cpy b (md_h1 h c) 0 ((if c = 8 then 7 else c) * 240) 240
def md_c2 (c : Int) : Int := if c = 8 then 8 else c + 1
/-- what a change leaves: nothing if it failed, otherwise a step of the history more -/
def md_kp (σ : jk_I) (m : Nat) (O h b : Int → Int) : jk_I := if O 12 = 0 then jk_row (jk_row σ (m + 6) (md_h2 h (O 3) b)) m (jk_set O 3 (md_c2 (O 3))) else jk_row σ (m + 2) b
theorem c_X13_kept {G : jk_G} {n : Nat} {t : jk_T} {σ : jk_I} {ρ : jk_P} {m : Nat} {g b h O : Int → Int} {v : Int} (hm : md_at t ρ m) (hg : σ (m + 2) = g) (ho : σ m = O) (hb4 : σ (m + 4) = b) (hgz : ∀ p, p < 0 ∨ 240 ≤ p → g p = 0) (hbz : ∀ p, p < 0 ∨ 240 ≤ p → b p = 0) (hh : σ (m + 6) = h) (ho3 : 0 ≤ O 3 ∧ O 3 ≤ 8) (ho12 : jk_in (O 12)) : jk_K G yX13_kept mX13_kept 0 0 [.ref m, jI v] n t σ ρ (jk_q (some (jI (if O 12 = 0 then v else 0))) n t (md_kp σ m O h b) ρ) jk_no := by
  refine jk_entryB (ls := [some (.ref m), some (jI v), none]) jm_X13_kept.1 rfl rfl rfl ?_
  refine jk_aload_n (q := 1) dX13_kept_0 rfl rfl ?_
  refine jk_getIR (q := 4) (k := 13) 12 12 rfl (by first | exact hm.1 | exact hm.2.1 _ _ rfl | assumption) (by first | exact jk_row_same _ _ _ | exact hg | exact ho | exact hb4 | exact hh | (rewrite [jk_row_ne _ _ (by omega)]; first | exact jk_row_same _ _ _ | exact hg | exact ho | exact hb4 | exact hh | (rewrite [jk_row_ne _ _ (by omega)]; first | exact jk_row_same _ _ _ | exact hg | exact ho | exact hb4 | exact hh | (rewrite [jk_row_ne _ _ (by omega)]; first | exact jk_row_same _ _ _ | exact hg | exact ho | exact hb4 | exact hh | (rewrite [jk_row_ne _ _ (by omega)]; first | exact hg | exact ho | exact hb4 | exact hh | rfl))))) rfl rfl jw_1860 dX13_kept_1 rfl ?_
  refine jk_if_eq (q := 22) (q2 := 7) dX13_kept_4 rfl rfl (by first | decide | omega | exact jB_01 _) (fun h1 => ?_) (fun h1 => ?_)
  · refine jk_aload_n (q := 23) dX13_kept_22 rfl rfl ?_
    refine jk_getIR (q := 26) (k := 13) 3 3 rfl (by first | exact hm.1 | exact hm.2.1 _ _ rfl | assumption) (by first | exact jk_row_same _ _ _ | exact hg | exact ho | exact hb4 | exact hh | (rewrite [jk_row_ne _ _ (by omega)]; first | exact jk_row_same _ _ _ | exact hg | exact ho | exact hb4 | exact hh | (rewrite [jk_row_ne _ _ (by omega)]; first | exact jk_row_same _ _ _ | exact hg | exact ho | exact hb4 | exact hh | (rewrite [jk_row_ne _ _ (by omega)]; first | exact jk_row_same _ _ _ | exact hg | exact ho | exact hb4 | exact hh | (rewrite [jk_row_ne _ _ (by omega)]; first | exact hg | exact ho | exact hb4 | exact hh | rfl))))) rfl rfl jw_1851 dX13_kept_23 rfl ?_
    refine jk_bipush (q := 28) (y := 8) dX13_kept_26 rfl (by decide) ?_
    refine jk_icmp_ne (q := 72) (q2 := 31) dX13_kept_28 rfl rfl (by first | decide | omega | exact jB_01 _) (by first | decide | omega | exact jB_01 _) (fun h2 => ?_) (fun h2 => ?_)
    · refine jk_aload_n (q := 73) dX13_kept_72 rfl rfl ?_
      refine jk_getA (q := 76) (k := 13) 1 1 rfl (by first | exact hm.1 | exact hm.2.1 _ _ rfl | assumption) (by first | exact hm.2.2 _ _ rfl | assumption) rfl rfl jw_1849 dX13_kept_73 rfl ?_
      refine jk_iconst (q := 77) dX13_kept_76 rfl ?_
      refine jk_aload_n (q := 78) dX13_kept_77 rfl rfl ?_
      refine jk_getA (q := 81) (k := 13) 2 2 rfl (by first | exact hm.1 | exact hm.2.1 _ _ rfl | assumption) (by first | exact hm.2.2 _ _ rfl | assumption) rfl rfl jw_1850 dX13_kept_78 rfl ?_
      refine jk_aload_n (q := 82) dX13_kept_81 rfl rfl ?_
      refine jk_getIR (q := 85) (k := 13) 3 3 rfl (by first | exact hm.1 | exact hm.2.1 _ _ rfl | assumption) (by first | exact jk_row_same _ _ _ | exact hg | exact ho | exact hb4 | exact hh | (rewrite [jk_row_ne _ _ (by omega)]; first | exact jk_row_same _ _ _ | exact hg | exact ho | exact hb4 | exact hh | (rewrite [jk_row_ne _ _ (by omega)]; first | exact jk_row_same _ _ _ | exact hg | exact ho | exact hb4 | exact hh | (rewrite [jk_row_ne _ _ (by omega)]; first | exact jk_row_same _ _ _ | exact hg | exact ho | exact hb4 | exact hh | (rewrite [jk_row_ne _ _ (by omega)]; first | exact hg | exact ho | exact hb4 | exact hh | rfl))))) rfl rfl jw_1851 dX13_kept_82 rfl ?_
      refine jk_sipush (q := 88) (y := 240) dX13_kept_85 rfl (by decide) ?_
      refine jk_imul (q := 89) dX13_kept_88 rfl ?_
      refine jk_cS4v (q := 92) (c_X13_copy (hm.2.1 4 _ rfl) (hm.2.1 6 _ rfl) (F := b) (D := md_h1 h (O 3)) (by exact hb4) (by unfold md_h1; rw [if_neg (by assumption)]; exact hh) (by omega) (by decide) (by constructor <;> (try simp) <;> omega) (by decide)) jm_X13_copy jw_1930 rfl rfl rfl dX13_kept_89 rfl ?_
      refine jk_aload_n (q := 93) dX13_kept_92 rfl rfl ?_
      refine jk_dup (q := 94) dX13_kept_93 rfl rfl ?_
      refine jk_getIR (q := 97) (k := 13) 3 3 rfl (by first | exact hm.1 | exact hm.2.1 _ _ rfl | assumption) (by first | exact jk_row_same _ _ _ | exact hg | exact ho | exact hb4 | exact hh | (rewrite [jk_row_ne _ _ (by omega)]; first | exact jk_row_same _ _ _ | exact hg | exact ho | exact hb4 | exact hh | (rewrite [jk_row_ne _ _ (by omega)]; first | exact jk_row_same _ _ _ | exact hg | exact ho | exact hb4 | exact hh | (rewrite [jk_row_ne _ _ (by omega)]; first | exact jk_row_same _ _ _ | exact hg | exact ho | exact hb4 | exact hh | (rewrite [jk_row_ne _ _ (by omega)]; first | exact hg | exact ho | exact hb4 | exact hh | rfl))))) rfl rfl jw_1851 dX13_kept_94 rfl ?_
      refine jk_iconst (q := 98) dX13_kept_97 rfl ?_
      refine jk_iadd (q := 99) dX13_kept_98 rfl ?_
      refine jk_putIR (q := 102) (k := 13) 3 3 rfl (by first | exact hm.1 | exact hm.2.1 _ _ rfl | assumption) (by first | exact jk_row_same _ _ _ | exact hg | exact ho | exact hb4 | exact hh | (rewrite [jk_row_ne _ _ (by omega)]; first | exact jk_row_same _ _ _ | exact hg | exact ho | exact hb4 | exact hh | (rewrite [jk_row_ne _ _ (by omega)]; first | exact jk_row_same _ _ _ | exact hg | exact ho | exact hb4 | exact hh | (rewrite [jk_row_ne _ _ (by omega)]; first | exact jk_row_same _ _ _ | exact hg | exact ho | exact hb4 | exact hh | (rewrite [jk_row_ne _ _ (by omega)]; first | exact hg | exact ho | exact hb4 | exact hh | rfl))))) rfl rfl rfl jw_1851 dX13_kept_99 rfl ?_
      refine jk_iload_n (q := 103) dX13_kept_102 rfl rfl ?_
      exact jk_iret rfl dX13_kept_103 (by refine ⟨by rw [if_pos (by assumption)], rfl, rfl, ?_, rfl⟩; unfold md_kp md_h2 md_c2; rw [if_pos (by assumption)]; first | (have h8 : O 3 = 8 := (by assumption); have e3 : jk_set O 3 (O 3 - 1) 3 = 7 := (by rw [jk_set_at]; omega); rw [e3, jk_set_set, if_pos h8, if_pos h8, jk_row_comm _ _ (md_cpy _ _ _ _ _) (by omega), jk_row_row, hs1, jk_row_row]; rfl) | rw [if_neg (by assumption), if_neg (by assumption)])
    · refine jk_iconst (q := 32) dX13_kept_31 rfl ?_
      refine jk_istore2 (q := 33) dX13_kept_32 rfl rfl rfl ?_
      have L33 : ∀ k33 : Nat, k33 ≤ 1680 → ∀ (σ1 : jk_I), (hs1 : σ1 = jk_row σ (m + 6) (fun p => if 0 ≤ p ∧ p < (k33 : Int) then h (p + 240) else h p)) → jk_J G mX13_kept 33 [some (.ref m), some (jI v), some (jI (k33 : Int))] [] n t σ1 ρ 0 0 (jk_q (some (jI (if O 12 = 0 then v else 0))) n t (md_kp σ m O h b) ρ) jk_no := by
        refine jk_loop _ (fun k33 hk33 ih33 => ?_)
        intro σ1 hs1
        have ho1 : σ1 m = O := by rw [hs1, jk_row_ne _ _ (by omega)]; exact ho
        have hb1 : σ1 (m + 4) = b := by rw [hs1, jk_row_ne _ _ (by omega)]; exact hb4
        have hh1 : σ1 (m + 6) = (fun p => if 0 ≤ p ∧ p < (k33 : Int) then h (p + 240) else h p) := by rw [hs1, jk_row_same]
        refine jk_iload_n (q := 34) dX13_kept_33 rfl rfl ?_
        refine jk_sipush (q := 37) (y := 1680) dX13_kept_34 rfl (by decide) ?_
        refine jk_icmp_ge (q := 62) (q2 := 40) dX13_kept_37 rfl rfl (by first | decide | omega | exact jB_01 _) (by first | decide | omega | exact jB_01 _) (fun h3 => ?_) (fun h3 => ?_)
        · refine jk_aload_n (q := 63) dX13_kept_62 rfl rfl ?_
          refine jk_dup (q := 64) dX13_kept_63 rfl rfl ?_
          refine jk_getIR (q := 67) (k := 13) 3 3 rfl (by first | exact hm.1 | exact hm.2.1 _ _ rfl | assumption) (by first | exact jk_row_same _ _ _ | exact ho1 | exact hb1 | exact hh1 | (rewrite [jk_row_ne _ _ (by omega)]; first | exact jk_row_same _ _ _ | exact ho1 | exact hb1 | exact hh1 | (rewrite [jk_row_ne _ _ (by omega)]; first | exact jk_row_same _ _ _ | exact ho1 | exact hb1 | exact hh1 | (rewrite [jk_row_ne _ _ (by omega)]; first | exact jk_row_same _ _ _ | exact ho1 | exact hb1 | exact hh1 | (rewrite [jk_row_ne _ _ (by omega)]; first | exact ho1 | exact hb1 | exact hh1 | rfl))))) rfl rfl jw_1851 dX13_kept_64 rfl ?_
          refine jk_iconst (q := 68) dX13_kept_67 rfl ?_
          refine jk_isub (q := 69) dX13_kept_68 rfl ?_
          refine jk_putIR (q := 72) (k := 13) 3 3 rfl (by first | exact hm.1 | exact hm.2.1 _ _ rfl | assumption) (by first | exact jk_row_same _ _ _ | exact ho1 | exact hb1 | exact hh1 | (rewrite [jk_row_ne _ _ (by omega)]; first | exact jk_row_same _ _ _ | exact ho1 | exact hb1 | exact hh1 | (rewrite [jk_row_ne _ _ (by omega)]; first | exact jk_row_same _ _ _ | exact ho1 | exact hb1 | exact hh1 | (rewrite [jk_row_ne _ _ (by omega)]; first | exact jk_row_same _ _ _ | exact ho1 | exact hb1 | exact hh1 | (rewrite [jk_row_ne _ _ (by omega)]; first | exact ho1 | exact hb1 | exact hh1 | rfl))))) rfl rfl rfl jw_1851 dX13_kept_69 rfl ?_
          refine jk_aload_n (q := 73) dX13_kept_72 rfl rfl ?_
          refine jk_getA (q := 76) (k := 13) 1 1 rfl (by first | exact hm.1 | exact hm.2.1 _ _ rfl | assumption) (by first | exact hm.2.2 _ _ rfl | assumption) rfl rfl jw_1849 dX13_kept_73 rfl ?_
          refine jk_iconst (q := 77) dX13_kept_76 rfl ?_
          refine jk_aload_n (q := 78) dX13_kept_77 rfl rfl ?_
          refine jk_getA (q := 81) (k := 13) 2 2 rfl (by first | exact hm.1 | exact hm.2.1 _ _ rfl | assumption) (by first | exact hm.2.2 _ _ rfl | assumption) rfl rfl jw_1850 dX13_kept_78 rfl ?_
          refine jk_aload_n (q := 82) dX13_kept_81 rfl rfl ?_
          refine jk_getIR (q := 85) (k := 13) 3 3 rfl (by first | exact hm.1 | exact hm.2.1 _ _ rfl | assumption) (by first | exact jk_row_same _ _ _ | exact ho1 | exact hb1 | exact hh1 | (rewrite [jk_row_ne _ _ (by omega)]; first | exact jk_row_same _ _ _ | exact ho1 | exact hb1 | exact hh1 | (rewrite [jk_row_ne _ _ (by omega)]; first | exact jk_row_same _ _ _ | exact ho1 | exact hb1 | exact hh1 | (rewrite [jk_row_ne _ _ (by omega)]; first | exact jk_row_same _ _ _ | exact ho1 | exact hb1 | exact hh1 | (rewrite [jk_row_ne _ _ (by omega)]; first | exact ho1 | exact hb1 | exact hh1 | rfl))))) rfl rfl jw_1851 dX13_kept_82 rfl ?_
          refine jk_sipush (q := 88) (y := 240) dX13_kept_85 rfl (by decide) ?_
          refine jk_imul (q := 89) dX13_kept_88 rfl ?_
          refine jk_cS4v (q := 92) (c_X13_copy (hm.2.1 4 _ rfl) (hm.2.1 6 _ rfl) (F := b) (D := md_h1 h (O 3)) (by rw [jk_row_ne _ _ (by omega)]; exact hb1) (by rw [jk_row_ne _ _ (by omega), hs1, jk_row_same, show k33 = 1680 by omega]; unfold md_h1; rw [if_pos (by assumption)]; rfl) (by omega) (by decide) (by simp [jk_set, *]) (by decide)) jm_X13_copy jw_1930 rfl rfl rfl dX13_kept_89 rfl ?_
          refine jk_aload_n (q := 93) dX13_kept_92 rfl rfl ?_
          refine jk_dup (q := 94) dX13_kept_93 rfl rfl ?_
          refine jk_getIR (q := 97) (k := 13) 3 3 rfl (by first | exact hm.1 | exact hm.2.1 _ _ rfl | assumption) (by first | exact jk_row_same _ _ _ | exact ho1 | exact hb1 | exact hh1 | (rewrite [jk_row_ne _ _ (by omega)]; first | exact jk_row_same _ _ _ | exact ho1 | exact hb1 | exact hh1 | (rewrite [jk_row_ne _ _ (by omega)]; first | exact jk_row_same _ _ _ | exact ho1 | exact hb1 | exact hh1 | (rewrite [jk_row_ne _ _ (by omega)]; first | exact jk_row_same _ _ _ | exact ho1 | exact hb1 | exact hh1 | (rewrite [jk_row_ne _ _ (by omega)]; first | exact ho1 | exact hb1 | exact hh1 | rfl))))) rfl rfl jw_1851 dX13_kept_94 rfl ?_
          refine jk_iconst (q := 98) dX13_kept_97 rfl ?_
          refine jk_iadd (q := 99) dX13_kept_98 rfl ?_
          refine jk_putIR (q := 102) (k := 13) 3 3 rfl (by first | exact hm.1 | exact hm.2.1 _ _ rfl | assumption) (by first | exact jk_row_same _ _ _ | exact ho1 | exact hb1 | exact hh1 | (rewrite [jk_row_ne _ _ (by omega)]; first | exact jk_row_same _ _ _ | exact ho1 | exact hb1 | exact hh1 | (rewrite [jk_row_ne _ _ (by omega)]; first | exact jk_row_same _ _ _ | exact ho1 | exact hb1 | exact hh1 | (rewrite [jk_row_ne _ _ (by omega)]; first | exact jk_row_same _ _ _ | exact ho1 | exact hb1 | exact hh1 | (rewrite [jk_row_ne _ _ (by omega)]; first | exact ho1 | exact hb1 | exact hh1 | rfl))))) rfl rfl rfl jw_1851 dX13_kept_99 rfl ?_
          refine jk_iload_n (q := 103) dX13_kept_102 rfl rfl ?_
          exact jk_iret rfl dX13_kept_103 (by refine ⟨by rw [if_pos (by assumption)], rfl, rfl, ?_, rfl⟩; unfold md_kp md_h2 md_c2; rw [if_pos (by assumption)]; first | (have h8 : O 3 = 8 := (by assumption); have e3 : jk_set O 3 (O 3 - 1) 3 = 7 := (by rw [jk_set_at]; omega); rw [e3, jk_set_set, if_pos h8, if_pos h8, jk_row_comm _ _ (md_cpy _ _ _ _ _) (by omega), jk_row_row, hs1, jk_row_row]; rfl) | rw [if_neg (by assumption), if_neg (by assumption)])
        · refine jk_aload_n (q := 41) dX13_kept_40 rfl rfl ?_
          refine jk_getA (q := 44) (k := 13) 2 2 rfl (by first | exact hm.1 | exact hm.2.1 _ _ rfl | assumption) (by first | exact hm.2.2 _ _ rfl | assumption) rfl rfl jw_1850 dX13_kept_41 rfl ?_
          refine jk_iload_n (q := 45) dX13_kept_44 rfl rfl ?_
          refine jk_aload_n (q := 46) dX13_kept_45 rfl rfl ?_
          refine jk_getA (q := 49) (k := 13) 2 2 rfl (by first | exact hm.1 | exact hm.2.1 _ _ rfl | assumption) (by first | exact hm.2.2 _ _ rfl | assumption) rfl rfl jw_1850 dX13_kept_46 rfl ?_
          refine jk_iload_n (q := 50) dX13_kept_49 rfl rfl ?_
          refine jk_sipush (q := 53) (y := 240) dX13_kept_50 rfl (by decide) ?_
          refine jk_iadd (q := 54) dX13_kept_53 rfl ?_
          refine jk_ialdR (q := 55) (by first | exact hm.1 | exact hm.2.1 _ _ rfl | assumption) (by first | exact jk_row_same _ _ _ | exact ho1 | exact hb1 | exact hh1 | (rewrite [jk_row_ne _ _ (by omega)]; first | exact jk_row_same _ _ _ | exact ho1 | exact hb1 | exact hh1 | (rewrite [jk_row_ne _ _ (by omega)]; first | exact jk_row_same _ _ _ | exact ho1 | exact hb1 | exact hh1 | (rewrite [jk_row_ne _ _ (by omega)]; first | exact jk_row_same _ _ _ | exact ho1 | exact hb1 | exact hh1 | (rewrite [jk_row_ne _ _ (by omega)]; first | exact ho1 | exact hb1 | exact hh1 | rfl))))) (by first | decide | omega | exact jB_01 _) dX13_kept_54 rfl ?_
          refine jk_iastR (q := 56) (by first | exact hm.1 | exact hm.2.1 _ _ rfl | assumption) (by first | exact jk_row_same _ _ _ | exact ho1 | exact hb1 | exact hh1 | (rewrite [jk_row_ne _ _ (by omega)]; first | exact jk_row_same _ _ _ | exact ho1 | exact hb1 | exact hh1 | (rewrite [jk_row_ne _ _ (by omega)]; first | exact jk_row_same _ _ _ | exact ho1 | exact hb1 | exact hh1 | (rewrite [jk_row_ne _ _ (by omega)]; first | exact jk_row_same _ _ _ | exact ho1 | exact hb1 | exact hh1 | (rewrite [jk_row_ne _ _ (by omega)]; first | exact ho1 | exact hb1 | exact hh1 | rfl))))) (by first | decide | omega | exact jB_01 _) dX13_kept_55 rfl ?_
          refine jk_iinc2 (q := 59) dX13_kept_56 rfl rfl rfl ?_
          refine jk_goto (q := 33) dX13_kept_59 rfl ?_
          refine ih33 (by omega) _ ?_
          rw [hs1, jk_row_row]
          congr 1
          exact jk_fill_S h (fun p => h (p + 240)) k33 _ (if_neg (by omega))
      exact L33 0 (Nat.zero_le _) σ (by rw [show (fun p => if 0 ≤ p ∧ p < ((0 : Nat) : Int) then h (p + 240) else h p) = h from jk_fill_0 h _, jk_row_id hh])
  · refine jk_aload_n (q := 8) dX13_kept_7 rfl rfl ?_
    refine jk_getA (q := 11) (k := 13) 1 1 rfl (by first | exact hm.1 | exact hm.2.1 _ _ rfl | assumption) (by first | exact hm.2.2 _ _ rfl | assumption) rfl rfl jw_1849 dX13_kept_8 rfl ?_
    refine jk_iconst (q := 12) dX13_kept_11 rfl ?_
    refine jk_aload_n (q := 13) dX13_kept_12 rfl rfl ?_
    refine jk_getA (q := 16) (k := 13) 0 0 rfl (by first | exact hm.1 | exact hm.2.1 _ _ rfl | assumption) (by first | exact hm.2.2 _ _ rfl | assumption) rfl rfl jw_1848 dX13_kept_13 rfl ?_
    refine jk_iconst (q := 17) dX13_kept_16 rfl ?_
    refine jk_cS4v (q := 20) (c_X13_copy (hm.2.1 4 _ rfl) (hm.2.1 2 _ rfl) hb4 hg (by omega) (by decide) (by decide) (by decide)) jm_X13_copy jw_1930 rfl rfl rfl dX13_kept_17 rfl ?_
    rw [md_cpy_all hbz hgz]
    refine jk_iconst (q := 21) dX13_kept_20 rfl ?_
    exact jk_iret rfl dX13_kept_21 (by refine ⟨by rw [if_neg (by assumption)], rfl, rfl, ?_, rfl⟩; unfold md_kp; rw [if_neg (by assumption)])
end MD8
