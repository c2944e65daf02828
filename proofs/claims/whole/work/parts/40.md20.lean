section MD20
def md_p10 : Nat → Int
  | 0 => 1
  | j + 1 => 10 * md_p10 j
theorem md_p10_bd (j : Nat) (h : j ≤ 7) : 1 ≤ md_p10 j ∧ md_p10 j ≤ 10000000 := by
  have key : ∀ j : Fin 8, 1 ≤ md_p10 j.val ∧ md_p10 j.val ≤ 10000000 := by decide
  exact key ⟨j, by omega⟩
/-- the number of the first digit's place -/
def md_top : Nat → Int → Nat
  | 0, _ => 0
  | j + 1, n => if n < md_p10 (j + 1) then md_top j n else j + 1
theorem md_top_le : ∀ (j : Nat) (n : Int), md_top j n ≤ j
  | 0, _ => Nat.le_refl _
  | j + 1, n => by unfold md_top; split; exact Nat.le_succ_of_le (md_top_le j n); exact Nat.le_refl _
def md_dg : Nat → Int → List Int
  | 0, _ => []
  | k + 1, n => (48 + n / md_p10 k % 10) :: md_dg k n
/-- a number's signs -/
def md_dgs (v : Int) : List Int := (if v < 0 then [45] else []) ++ md_dg (md_top 7 (md_abs v) + 1) (md_abs v)
def md_wr (s : (Int → Int) × Int) (c : Int) : (Int → Int) × Int := (jk_set s.1 s.2 c, s.2 + 1)
def md_wls (s : (Int → Int) × Int) (l : List Int) : (Int → Int) × Int := l.foldl md_wr s
theorem md_wls_len : ∀ (l : List Int) (s : (Int → Int) × Int), (md_wls s l).2 = s.2 + (l.length : Int)
  | [], s => by show s.2 = s.2 + 0; omega
  | c :: l, s => by
    show (md_wls (md_wr s c) l).2 = _
    rw [md_wls_len l (md_wr s c)]
    show s.2 + 1 + (l.length : Int) = s.2 + ((l.length + 1 : Nat) : Int)
    omega
theorem md_dg_len : ∀ (k : Nat) (n : Int), (md_dg k n).length = k
  | 0, _ => rfl
  | k + 1, n => by show (md_dg k n).length + 1 = k + 1; rw [md_dg_len k n]
theorem md_dgs_len (v : Int) : 1 ≤ (md_dgs v).length ∧ (md_dgs v).length ≤ 9 := by
  have := md_top_le 7 (md_abs v)
  unfold md_dgs
  rw [List.length_append, md_dg_len]
  split <;> simp <;> omega
/-- the heap with the output s -/
def md_wS (σ : jk_I) (m : Nat) (O : Int → Int) (s : (Int → Int) × Int) : jk_I := jk_row (jk_row σ (m + 12) s.1) m (jk_set O 11 s.2)
theorem md_wS_S (σ : jk_I) (m : Nat) (O : Int → Int) (s s2 : (Int → Int) × Int) : jk_row (jk_row (md_wS σ m O s) (m + 12) s2.1) m (jk_set (jk_set O 11 s.2) 11 s2.2) = md_wS σ m O s2 := by
  unfold md_wS
  rw [jk_rr _ _ _ _ _ (by omega), jk_set_set]
theorem md_wS_at (σ : jk_I) (m : Nat) (O : Int → Int) (s : (Int → Int) × Int) : md_wS σ m O s m = jk_set O 11 s.2 ∧ md_wS σ m O s (m + 12) = s.1 ∧ ∀ a, a ≠ m → a ≠ m + 12 → md_wS σ m O s a = σ a := by
  unfold md_wS
  exact ⟨jk_row_same _ _ _, by rw [jk_row_ne _ _ (by omega), jk_row_same], fun a h1 h2 => by rw [jk_row_ne _ _ h1, jk_row_ne _ _ h2]⟩
theorem c_X13_writes {G : jk_G} {n : Nat} {t : jk_T} {σ : jk_I} {ρ : jk_P} {m : Nat} {O : Int → Int} {s : (Int → Int) × Int} {c : Int} (hm : md_at t ρ m) (ho : σ m = jk_set O 11 s.2) (hl : σ (m + 12) = s.1) (hs : 0 ≤ s.2 ∧ s.2 < 60) (hc : 0 ≤ c ∧ c < 65536) : jk_K G yX13_writes mX13_writes 0 0 [.ref m, jI c] n t σ ρ (jk_q none n t (md_wS σ m O (md_wr s c)) ρ) jk_no := by
  refine jk_entryB (ls := [some (.ref m), some (jI c)]) jm_X13_writes.1 rfl rfl rfl ?_
  refine jk_aload_n (q := 1) dX13_writes_0 rfl rfl ?_
  refine jk_getA (q := 4) (k := 13) 10 10 rfl (by first | exact hm.1 | exact hm.2.1 _ _ rfl | assumption) (by first | exact hm.2.2 _ _ rfl | assumption) rfl rfl jw_1858 dX13_writes_1 rfl ?_
  refine jk_aload_n (q := 5) dX13_writes_4 rfl rfl ?_
  refine jk_getIR (q := 8) (k := 13) 11 11 rfl (by first | exact hm.1 | exact hm.2.1 _ _ rfl | assumption) (by first | exact jk_row_same _ _ _ | exact ho | exact hl | (rewrite [jk_row_ne _ _ (by omega)]; first | exact jk_row_same _ _ _ | exact ho | exact hl | (rewrite [jk_row_ne _ _ (by omega)]; first | exact jk_row_same _ _ _ | exact ho | exact hl | (rewrite [jk_row_ne _ _ (by omega)]; first | exact jk_row_same _ _ _ | exact ho | exact hl | (rewrite [jk_row_ne _ _ (by omega)]; first | exact ho | exact hl | rfl))))) rfl rfl jw_1859 dX13_writes_5 rfl ?_
  refine jk_iload_n (q := 9) dX13_writes_8 rfl rfl ?_
  rw [jk_set_at]
  refine jk_i2c (q := 10) (by first | decide | omega | exact jB_01 _) dX13_writes_9 rfl ?_
  refine jk_castR (q := 11) (by first | exact hm.1 | exact hm.2.1 _ _ rfl | assumption) (by first | exact jk_row_same _ _ _ | exact ho | exact hl | (rewrite [jk_row_ne _ _ (by omega)]; first | exact jk_row_same _ _ _ | exact ho | exact hl | (rewrite [jk_row_ne _ _ (by omega)]; first | exact jk_row_same _ _ _ | exact ho | exact hl | (rewrite [jk_row_ne _ _ (by omega)]; first | exact jk_row_same _ _ _ | exact ho | exact hl | (rewrite [jk_row_ne _ _ (by omega)]; first | exact ho | exact hl | rfl))))) (by first | decide | omega | exact jB_01 _) (by first | decide | omega | exact jB_01 _) dX13_writes_10 rfl ?_
  refine jk_aload_n (q := 12) dX13_writes_11 rfl rfl ?_
  refine jk_dup (q := 13) dX13_writes_12 rfl rfl ?_
  refine jk_getIR (q := 16) (k := 13) 11 11 rfl (by first | exact hm.1 | exact hm.2.1 _ _ rfl | assumption) (by first | exact jk_row_same _ _ _ | exact ho | exact hl | (rewrite [jk_row_ne _ _ (by omega)]; first | exact jk_row_same _ _ _ | exact ho | exact hl | (rewrite [jk_row_ne _ _ (by omega)]; first | exact jk_row_same _ _ _ | exact ho | exact hl | (rewrite [jk_row_ne _ _ (by omega)]; first | exact jk_row_same _ _ _ | exact ho | exact hl | (rewrite [jk_row_ne _ _ (by omega)]; first | exact ho | exact hl | rfl))))) rfl rfl jw_1859 dX13_writes_13 rfl ?_
  rw [jk_set_at]
  refine jk_iconst (q := 17) dX13_writes_16 rfl ?_
  refine jk_iadd (q := 18) dX13_writes_17 rfl ?_
  refine jk_putIR (q := 21) (k := 13) 11 11 rfl (by first | exact hm.1 | exact hm.2.1 _ _ rfl | assumption) (by first | exact jk_row_same _ _ _ | exact ho | exact hl | (rewrite [jk_row_ne _ _ (by omega)]; first | exact jk_row_same _ _ _ | exact ho | exact hl | (rewrite [jk_row_ne _ _ (by omega)]; first | exact jk_row_same _ _ _ | exact ho | exact hl | (rewrite [jk_row_ne _ _ (by omega)]; first | exact jk_row_same _ _ _ | exact ho | exact hl | (rewrite [jk_row_ne _ _ (by omega)]; first | exact ho | exact hl | rfl))))) rfl rfl rfl jw_1859 dX13_writes_18 rfl ?_
  exact jk_ret rfl dX13_writes_21 (by refine ⟨rfl, rfl, rfl, ?_, rfl⟩; unfold md_wS md_wr; rw [jk_set_set])
def md_u : Nat → Int
  | 0 => 0
  | k + 1 => md_p10 k
theorem md_u_div (k : Nat) : md_u (k + 1) / 10 = md_u k := by
  match k with
  | 0 => rfl
  | k + 1 => show 10 * md_p10 k / 10 = md_p10 k; omega
theorem md_u_z {k : Nat} (h8 : k ≤ 8) (h : md_u k ≤ 0) : k = 0 := by
  match k with
  | 0 => rfl
  | k + 1 => exfalso; have := md_p10_bd k (by omega); have e : md_u (k + 1) = md_p10 k := rfl; omega
theorem md_topE {k : Nat} {e : Int} (h0 : k ≤ 7) (ht : md_top k e = md_top 7 e) (h : md_p10 k ≤ 1 ∨ md_p10 k ≤ e) : md_top 7 e = k := by
  rw [← ht]
  match k with
  | 0 => rfl
  | k + 1 =>
    have h1 := md_p10_bd k (by omega)
    have e1 : md_p10 (k + 1) = 10 * md_p10 k := rfl
    unfold md_top
    rw [if_neg (by omega)]
theorem c_X13_writesNumber {G : jk_G} {n : Nat} {t : jk_T} {σ : jk_I} {ρ : jk_P} {m : Nat} {O : Int → Int} {s : (Int → Int) × Int} {v : Int} (hm : md_at t ρ m) (hs : 0 ≤ s.2 ∧ s.2 ≤ 50) (hv : -99999999 ≤ v ∧ v ≤ 99999999) : jk_K G yX13_writesNumber mX13_writesNumber 0 0 [.ref m, jI v] n t (md_wS σ m O s) ρ (jk_q none n t (md_wS σ m O (md_wls s (md_dgs v))) ρ) jk_no := by
  refine jk_entryB (ls := [some (.ref m), some (jI v), none, none]) jm_X13_writesNumber.1 rfl rfl rfl ?_
  have hab : 0 ≤ md_abs v ∧ md_abs v ≤ 99999999 := by unfold md_abs; split <;> omega
  refine jk_iload_n (q := 1) dX13_writesNumber_0 rfl rfl ?_
  refine jk_if_ge (q := 10) (q2 := 4) dX13_writesNumber_1 rfl rfl (by first | decide | omega | exact jB_01 _) (fun h1 => ?_) (fun h1 => ?_)
  · obtain ⟨sx, hsx, hsb⟩ : ∃ sx, sx = md_wls s (if v < 0 then [45] else []) ∧ 0 ≤ sx.2 ∧ sx.2 ≤ 51 := ⟨_, rfl, by rw [md_wls_len]; split <;> simp <;> omega⟩
    rw [show md_wS σ m O (s) = md_wS σ m O sx by rw [hsx, if_neg (by omega)]; rfl]
    refine jk_iload_n (q := 11) dX13_writesNumber_10 rfl rfl ?_
    refine jk_cS1p (q := 14) (c_X13_size (by omega)) jm_X13_size jw_2014 rfl rfl rfl dX13_writesNumber_11 rfl ?_
    generalize he : md_abs v = e at hab
    refine jk_istore2 (q := 15) dX13_writesNumber_14 rfl rfl rfl ?_
    refine jk_ldcwV (q := 18) (x := 10000000) jw_2363 (by decide) dX13_writesNumber_15 rfl ?_
    refine jk_istore3 (q := 19) dX13_writesNumber_18 rfl rfl rfl ?_
    have L19 : ∀ k19 : Nat, k19 ≤ 7 → (ht : md_top (7 - k19) e = md_top 7 e) → jk_J G mX13_writesNumber 19 [some (.ref m), some (jI v), some (jI e), some (jI (md_p10 (7 - k19)))] [] n t (md_wS σ m O sx) ρ 0 0 (jk_q none n t (md_wS σ m O (md_wls s (md_dgs v))) ρ) jk_no := by
      refine jk_loop _ (fun k19 hk19 ih19 => ?_)
      intro  ht
      have hpb := md_p10_bd (7 - k19) (by omega)
      refine jk_iload_n (q := 20) dX13_writesNumber_19 rfl rfl ?_
      refine jk_iconst (q := 21) dX13_writesNumber_20 rfl ?_
      refine jk_icmp_le (q := 37) (q2 := 24) dX13_writesNumber_21 rfl rfl (by first | decide | omega | exact jB_01 _) (by first | decide | omega | exact jB_01 _) (fun h2 => ?_) (fun h2 => ?_)
      · have L37 : ∀ k37 : Nat, k37 ≤ (md_top 7 e + 1) → ∀ (s1 : (Int → Int) × Int), (hw : md_wls s1 (md_dg (md_top 7 e + 1 - k37) e) = md_wls sx (md_dg (md_top 7 e + 1) e)) → (h50 : 0 ≤ s1.2 ∧ s1.2 ≤ 51 + (k37 : Int)) → jk_J G mX13_writesNumber 37 [some (.ref m), some (jI v), some (jI e), some (jI (md_u (md_top 7 e + 1 - k37)))] [] n t (md_wS σ m O s1) ρ 0 0 (jk_q none n t (md_wS σ m O (md_wls s (md_dgs v))) ρ) jk_no := by
          refine jk_loop _ (fun k37 hk37 ih37 => ?_)
          intro s1 hw h50
          have htl := md_top_le 7 e
          have hub : 0 ≤ md_u (md_top 7 e + 1 - k37) ∧ md_u (md_top 7 e + 1 - k37) ≤ 10000000 := by
            match h9 : md_top 7 e + 1 - k37 with
            | 0 => exact ⟨Int.le_refl _, by decide⟩
            | j + 1 => have := md_p10_bd j (by omega); exact ⟨by show 0 ≤ md_p10 j; omega, this.2⟩
          have huz := md_u_z (k := md_top 7 e + 1 - k37) (by omega)
          have hup : 0 < md_u (md_top 7 e + 1 - k37) → 0 < md_top 7 e + 1 - k37 := fun h => by
            rcases Nat.eq_zero_or_pos (md_top 7 e + 1 - k37) with h9 | h9
            · rw [h9] at h; exact absurd h (by decide)
            · exact h9
          refine jk_iload_n (q := 38) dX13_writesNumber_37 rfl rfl ?_
          refine jk_if_le (q := 62) (q2 := 41) dX13_writesNumber_38 rfl rfl (by first | decide | omega | exact jB_01 _) (fun h3 => ?_) (fun h3 => ?_)
          · exact jk_ret rfl dX13_writesNumber_62 (by refine ⟨rfl, rfl, rfl, ?_, rfl⟩; unfold md_dgs; rw [he]; unfold md_wls; rw [List.foldl_append]; show md_wS σ m O s1 = md_wS σ m O (md_wls (md_wls s (if v < 0 then [45] else [])) (md_dg (md_top 7 e + 1) e)); rw [← hsx, ← hw, huz (by omega)]; rfl)
          · refine jk_aload_n (q := 42) dX13_writesNumber_41 rfl rfl ?_
            refine jk_bipush (q := 44) (y := 48) dX13_writesNumber_42 rfl (by decide) ?_
            refine jk_iload_n (q := 45) dX13_writesNumber_44 rfl rfl ?_
            refine jk_iload_n (q := 46) dX13_writesNumber_45 rfl rfl ?_
            refine jk_idivP (q := 47) dX13_writesNumber_46 rfl (by first | decide | omega | exact jB_01 _) ?_
            have hdv : 0 ≤ e / md_u (md_top 7 e + 1 - k37) ∧ e / md_u (md_top 7 e + 1 - k37) ≤ e := ⟨Int.ediv_nonneg (by omega) (by omega), Int.ediv_le_self _ (by omega)⟩
            refine jk_bipush (q := 49) (y := 10) dX13_writesNumber_47 rfl (by decide) ?_
            refine jk_iremP (q := 50) dX13_writesNumber_49 rfl (by first | decide | omega | exact jB_01 _) ?_
            refine jk_iadd (q := 51) dX13_writesNumber_50 rfl ?_
            refine jk_cV1v (q := 54) (c_X13_writes (O := O) hm (md_wS_at σ m O _).1 (md_wS_at σ m O _).2.1 ⟨by omega, by omega⟩ ⟨by omega, by omega⟩) jm_X13_writes jw_2359 rfl (by first | exact hm.1 | exact hm.2.1 _ _ rfl | assumption) rfl rfl rfl dX13_writesNumber_51 rfl ?_
            rw [show md_wS (md_wS σ m O s1) m O (md_wr s1 (48 + e / md_u (md_top 7 e + 1 - k37) % 10)) = md_wS σ m O (md_wr s1 (48 + e / md_u (md_top 7 e + 1 - k37) % 10)) by unfold md_wS; rw [jk_rr _ _ _ _ _ (by omega)]]
            refine jk_iload_n (q := 55) dX13_writesNumber_54 rfl rfl ?_
            refine jk_bipush (q := 57) (y := 10) dX13_writesNumber_55 rfl (by decide) ?_
            refine jk_idivP (q := 58) dX13_writesNumber_57 rfl (by first | decide | omega | exact jB_01 _) ?_
            refine jk_istore3 (q := 59) dX13_writesNumber_58 rfl rfl rfl ?_
            refine jk_goto (q := 37) dX13_writesNumber_59 rfl ?_
            have hup2 := hup (by omega)
            have hk9 : md_top 7 e + 1 - k37 = (md_top 7 e + 1 - (k37 + 1)) + 1 := by omega
            refine jk_convl (ih37 (by omega) (md_wr s1 (48 + e / md_u (md_top 7 e + 1 - k37) % 10)) ?_ ⟨by show 0 ≤ s1.2 + 1; omega, by show s1.2 + 1 ≤ _; omega⟩) (jk_loc rfl (jk_loc rfl (jk_loc rfl (jk_loc (jk_li ?_) rfl))))
            · rw [← hw, hk9]; rfl
            · rw [hk9, md_u_div]
        refine jk_convl (L37 0 (Nat.zero_le _) sx rfl ⟨by omega, by show _ ≤ 51 + (0 : Int); omega⟩) (jk_loc rfl (jk_loc rfl (jk_loc rfl (jk_loc (jk_li ?_) rfl))))
        show md_p10 (md_top 7 e) = _
        rw [md_topE (by omega) ht (by omega)]
      · refine jk_iload_n (q := 25) dX13_writesNumber_24 rfl rfl ?_
        refine jk_iload_n (q := 26) dX13_writesNumber_25 rfl rfl ?_
        refine jk_icmp_ge (q := 37) (q2 := 29) dX13_writesNumber_26 rfl rfl (by first | decide | omega | exact jB_01 _) (by first | decide | omega | exact jB_01 _) (fun h4 => ?_) (fun h4 => ?_)
        · have L37 : ∀ k37 : Nat, k37 ≤ (md_top 7 e + 1) → ∀ (s1 : (Int → Int) × Int), (hw : md_wls s1 (md_dg (md_top 7 e + 1 - k37) e) = md_wls sx (md_dg (md_top 7 e + 1) e)) → (h50 : 0 ≤ s1.2 ∧ s1.2 ≤ 51 + (k37 : Int)) → jk_J G mX13_writesNumber 37 [some (.ref m), some (jI v), some (jI e), some (jI (md_u (md_top 7 e + 1 - k37)))] [] n t (md_wS σ m O s1) ρ 0 0 (jk_q none n t (md_wS σ m O (md_wls s (md_dgs v))) ρ) jk_no := by
            refine jk_loop _ (fun k37 hk37 ih37 => ?_)
            intro s1 hw h50
            have htl := md_top_le 7 e
            have hub : 0 ≤ md_u (md_top 7 e + 1 - k37) ∧ md_u (md_top 7 e + 1 - k37) ≤ 10000000 := by
              match h9 : md_top 7 e + 1 - k37 with
              | 0 => exact ⟨Int.le_refl _, by decide⟩
              | j + 1 => have := md_p10_bd j (by omega); exact ⟨by show 0 ≤ md_p10 j; omega, this.2⟩
            have huz := md_u_z (k := md_top 7 e + 1 - k37) (by omega)
            have hup : 0 < md_u (md_top 7 e + 1 - k37) → 0 < md_top 7 e + 1 - k37 := fun h => by
              rcases Nat.eq_zero_or_pos (md_top 7 e + 1 - k37) with h9 | h9
              · rw [h9] at h; exact absurd h (by decide)
              · exact h9
            refine jk_iload_n (q := 38) dX13_writesNumber_37 rfl rfl ?_
            refine jk_if_le (q := 62) (q2 := 41) dX13_writesNumber_38 rfl rfl (by first | decide | omega | exact jB_01 _) (fun h5 => ?_) (fun h5 => ?_)
            · exact jk_ret rfl dX13_writesNumber_62 (by refine ⟨rfl, rfl, rfl, ?_, rfl⟩; unfold md_dgs; rw [he]; unfold md_wls; rw [List.foldl_append]; show md_wS σ m O s1 = md_wS σ m O (md_wls (md_wls s (if v < 0 then [45] else [])) (md_dg (md_top 7 e + 1) e)); rw [← hsx, ← hw, huz (by omega)]; rfl)
            · refine jk_aload_n (q := 42) dX13_writesNumber_41 rfl rfl ?_
              refine jk_bipush (q := 44) (y := 48) dX13_writesNumber_42 rfl (by decide) ?_
              refine jk_iload_n (q := 45) dX13_writesNumber_44 rfl rfl ?_
              refine jk_iload_n (q := 46) dX13_writesNumber_45 rfl rfl ?_
              refine jk_idivP (q := 47) dX13_writesNumber_46 rfl (by first | decide | omega | exact jB_01 _) ?_
              have hdv : 0 ≤ e / md_u (md_top 7 e + 1 - k37) ∧ e / md_u (md_top 7 e + 1 - k37) ≤ e := ⟨Int.ediv_nonneg (by omega) (by omega), Int.ediv_le_self _ (by omega)⟩
              refine jk_bipush (q := 49) (y := 10) dX13_writesNumber_47 rfl (by decide) ?_
              refine jk_iremP (q := 50) dX13_writesNumber_49 rfl (by first | decide | omega | exact jB_01 _) ?_
              refine jk_iadd (q := 51) dX13_writesNumber_50 rfl ?_
              refine jk_cV1v (q := 54) (c_X13_writes (O := O) hm (md_wS_at σ m O _).1 (md_wS_at σ m O _).2.1 ⟨by omega, by omega⟩ ⟨by omega, by omega⟩) jm_X13_writes jw_2359 rfl (by first | exact hm.1 | exact hm.2.1 _ _ rfl | assumption) rfl rfl rfl dX13_writesNumber_51 rfl ?_
              rw [show md_wS (md_wS σ m O s1) m O (md_wr s1 (48 + e / md_u (md_top 7 e + 1 - k37) % 10)) = md_wS σ m O (md_wr s1 (48 + e / md_u (md_top 7 e + 1 - k37) % 10)) by unfold md_wS; rw [jk_rr _ _ _ _ _ (by omega)]]
              refine jk_iload_n (q := 55) dX13_writesNumber_54 rfl rfl ?_
              refine jk_bipush (q := 57) (y := 10) dX13_writesNumber_55 rfl (by decide) ?_
              refine jk_idivP (q := 58) dX13_writesNumber_57 rfl (by first | decide | omega | exact jB_01 _) ?_
              refine jk_istore3 (q := 59) dX13_writesNumber_58 rfl rfl rfl ?_
              refine jk_goto (q := 37) dX13_writesNumber_59 rfl ?_
              have hup2 := hup (by omega)
              have hk9 : md_top 7 e + 1 - k37 = (md_top 7 e + 1 - (k37 + 1)) + 1 := by omega
              refine jk_convl (ih37 (by omega) (md_wr s1 (48 + e / md_u (md_top 7 e + 1 - k37) % 10)) ?_ ⟨by show 0 ≤ s1.2 + 1; omega, by show s1.2 + 1 ≤ _; omega⟩) (jk_loc rfl (jk_loc rfl (jk_loc rfl (jk_loc (jk_li ?_) rfl))))
              · rw [← hw, hk9]; rfl
              · rw [hk9, md_u_div]
          refine jk_convl (L37 0 (Nat.zero_le _) sx rfl ⟨by omega, by show _ ≤ 51 + (0 : Int); omega⟩) (jk_loc rfl (jk_loc rfl (jk_loc rfl (jk_loc (jk_li ?_) rfl))))
          show md_p10 (md_top 7 e) = _
          rw [md_topE (by omega) ht (by omega)]
        · refine jk_iload_n (q := 30) dX13_writesNumber_29 rfl rfl ?_
          refine jk_bipush (q := 32) (y := 10) dX13_writesNumber_30 rfl (by decide) ?_
          refine jk_idivP (q := 33) dX13_writesNumber_32 rfl (by first | decide | omega | exact jB_01 _) ?_
          refine jk_istore3 (q := 34) dX13_writesNumber_33 rfl rfl rfl ?_
          refine jk_goto (q := 19) dX13_writesNumber_34 rfl ?_
          refine jk_convl (ih19 (by
            rcases Nat.lt_or_ge k19 7 with h9 | h9
            · exact h9
            · rw [show 7 - k19 = 0 by omega] at *; exfalso; have : md_p10 0 = 1 := rfl; omega) ?_) (jk_loc rfl (jk_loc rfl (jk_loc rfl (jk_loc (jk_li ?_) rfl))))
          · rw [← ht, show 7 - k19 = (7 - (k19 + 1)) + 1 by
              rcases Nat.lt_or_ge k19 7 with h9 | h9
              · omega
              · rw [show 7 - k19 = 0 by omega] at *; exfalso; have : md_p10 0 = 1 := rfl; omega]
            conv => rhs; unfold md_top
            rw [if_pos (by rw [show 7 - (k19 + 1) + 1 = 7 - k19 by
              rcases Nat.lt_or_ge k19 7 with h9 | h9
              · omega
              · rw [show 7 - k19 = 0 by omega] at *; exfalso; have : md_p10 0 = 1 := rfl; omega]; omega)]
          · rcases Nat.lt_or_ge k19 7 with h9 | h9
            · rw [show 7 - k19 = (7 - (k19 + 1)) + 1 by omega]
              show _ = 10 * md_p10 (7 - (k19 + 1)) / 10
              omega
            · rw [show 7 - k19 = 0 by omega] at *; exfalso; have : md_p10 0 = 1 := rfl; omega
    exact L19 0 (Nat.zero_le _) rfl
  · refine jk_aload_n (q := 5) dX13_writesNumber_4 rfl rfl ?_
    refine jk_bipush (q := 7) (y := 45) dX13_writesNumber_5 rfl (by decide) ?_
    refine jk_cV1v (q := 10) (c_X13_writes (O := O) hm (md_wS_at σ m O _).1 (md_wS_at σ m O _).2.1 ⟨by omega, by omega⟩ (by decide)) jm_X13_writes jw_2359 rfl (by first | exact hm.1 | exact hm.2.1 _ _ rfl | assumption) rfl rfl rfl dX13_writesNumber_7 rfl ?_
    rw [show md_wS (md_wS σ m O s) m O (md_wr s 45) = md_wS σ m O (md_wr s 45) by unfold md_wS; rw [jk_rr _ _ _ _ _ (by omega)]]
    obtain ⟨sx, hsx, hsb⟩ : ∃ sx, sx = md_wls s (if v < 0 then [45] else []) ∧ 0 ≤ sx.2 ∧ sx.2 ≤ 51 := ⟨_, rfl, by rw [md_wls_len]; split <;> simp <;> omega⟩
    rw [show md_wS σ m O (md_wr s 45) = md_wS σ m O sx by rw [hsx, if_pos (by omega)]; rfl]
    refine jk_iload_n (q := 11) dX13_writesNumber_10 rfl rfl ?_
    refine jk_cS1p (q := 14) (c_X13_size (by omega)) jm_X13_size jw_2014 rfl rfl rfl dX13_writesNumber_11 rfl ?_
    generalize he : md_abs v = e at hab
    refine jk_istore2 (q := 15) dX13_writesNumber_14 rfl rfl rfl ?_
    refine jk_ldcwV (q := 18) (x := 10000000) jw_2363 (by decide) dX13_writesNumber_15 rfl ?_
    refine jk_istore3 (q := 19) dX13_writesNumber_18 rfl rfl rfl ?_
    have L19 : ∀ k19 : Nat, k19 ≤ 7 → (ht : md_top (7 - k19) e = md_top 7 e) → jk_J G mX13_writesNumber 19 [some (.ref m), some (jI v), some (jI e), some (jI (md_p10 (7 - k19)))] [] n t (md_wS σ m O sx) ρ 0 0 (jk_q none n t (md_wS σ m O (md_wls s (md_dgs v))) ρ) jk_no := by
      refine jk_loop _ (fun k19 hk19 ih19 => ?_)
      intro  ht
      have hpb := md_p10_bd (7 - k19) (by omega)
      refine jk_iload_n (q := 20) dX13_writesNumber_19 rfl rfl ?_
      refine jk_iconst (q := 21) dX13_writesNumber_20 rfl ?_
      refine jk_icmp_le (q := 37) (q2 := 24) dX13_writesNumber_21 rfl rfl (by first | decide | omega | exact jB_01 _) (by first | decide | omega | exact jB_01 _) (fun h6 => ?_) (fun h6 => ?_)
      · have L37 : ∀ k37 : Nat, k37 ≤ (md_top 7 e + 1) → ∀ (s1 : (Int → Int) × Int), (hw : md_wls s1 (md_dg (md_top 7 e + 1 - k37) e) = md_wls sx (md_dg (md_top 7 e + 1) e)) → (h50 : 0 ≤ s1.2 ∧ s1.2 ≤ 51 + (k37 : Int)) → jk_J G mX13_writesNumber 37 [some (.ref m), some (jI v), some (jI e), some (jI (md_u (md_top 7 e + 1 - k37)))] [] n t (md_wS σ m O s1) ρ 0 0 (jk_q none n t (md_wS σ m O (md_wls s (md_dgs v))) ρ) jk_no := by
          refine jk_loop _ (fun k37 hk37 ih37 => ?_)
          intro s1 hw h50
          have htl := md_top_le 7 e
          have hub : 0 ≤ md_u (md_top 7 e + 1 - k37) ∧ md_u (md_top 7 e + 1 - k37) ≤ 10000000 := by
            match h9 : md_top 7 e + 1 - k37 with
            | 0 => exact ⟨Int.le_refl _, by decide⟩
            | j + 1 => have := md_p10_bd j (by omega); exact ⟨by show 0 ≤ md_p10 j; omega, this.2⟩
          have huz := md_u_z (k := md_top 7 e + 1 - k37) (by omega)
          have hup : 0 < md_u (md_top 7 e + 1 - k37) → 0 < md_top 7 e + 1 - k37 := fun h => by
            rcases Nat.eq_zero_or_pos (md_top 7 e + 1 - k37) with h9 | h9
            · rw [h9] at h; exact absurd h (by decide)
            · exact h9
          refine jk_iload_n (q := 38) dX13_writesNumber_37 rfl rfl ?_
          refine jk_if_le (q := 62) (q2 := 41) dX13_writesNumber_38 rfl rfl (by first | decide | omega | exact jB_01 _) (fun h7 => ?_) (fun h7 => ?_)
          · exact jk_ret rfl dX13_writesNumber_62 (by refine ⟨rfl, rfl, rfl, ?_, rfl⟩; unfold md_dgs; rw [he]; unfold md_wls; rw [List.foldl_append]; show md_wS σ m O s1 = md_wS σ m O (md_wls (md_wls s (if v < 0 then [45] else [])) (md_dg (md_top 7 e + 1) e)); rw [← hsx, ← hw, huz (by omega)]; rfl)
          · refine jk_aload_n (q := 42) dX13_writesNumber_41 rfl rfl ?_
            refine jk_bipush (q := 44) (y := 48) dX13_writesNumber_42 rfl (by decide) ?_
            refine jk_iload_n (q := 45) dX13_writesNumber_44 rfl rfl ?_
            refine jk_iload_n (q := 46) dX13_writesNumber_45 rfl rfl ?_
            refine jk_idivP (q := 47) dX13_writesNumber_46 rfl (by first | decide | omega | exact jB_01 _) ?_
            have hdv : 0 ≤ e / md_u (md_top 7 e + 1 - k37) ∧ e / md_u (md_top 7 e + 1 - k37) ≤ e := ⟨Int.ediv_nonneg (by omega) (by omega), Int.ediv_le_self _ (by omega)⟩
            refine jk_bipush (q := 49) (y := 10) dX13_writesNumber_47 rfl (by decide) ?_
            refine jk_iremP (q := 50) dX13_writesNumber_49 rfl (by first | decide | omega | exact jB_01 _) ?_
            refine jk_iadd (q := 51) dX13_writesNumber_50 rfl ?_
            refine jk_cV1v (q := 54) (c_X13_writes (O := O) hm (md_wS_at σ m O _).1 (md_wS_at σ m O _).2.1 ⟨by omega, by omega⟩ ⟨by omega, by omega⟩) jm_X13_writes jw_2359 rfl (by first | exact hm.1 | exact hm.2.1 _ _ rfl | assumption) rfl rfl rfl dX13_writesNumber_51 rfl ?_
            rw [show md_wS (md_wS σ m O s1) m O (md_wr s1 (48 + e / md_u (md_top 7 e + 1 - k37) % 10)) = md_wS σ m O (md_wr s1 (48 + e / md_u (md_top 7 e + 1 - k37) % 10)) by unfold md_wS; rw [jk_rr _ _ _ _ _ (by omega)]]
            refine jk_iload_n (q := 55) dX13_writesNumber_54 rfl rfl ?_
            refine jk_bipush (q := 57) (y := 10) dX13_writesNumber_55 rfl (by decide) ?_
            refine jk_idivP (q := 58) dX13_writesNumber_57 rfl (by first | decide | omega | exact jB_01 _) ?_
            refine jk_istore3 (q := 59) dX13_writesNumber_58 rfl rfl rfl ?_
            refine jk_goto (q := 37) dX13_writesNumber_59 rfl ?_
            have hup2 := hup (by omega)
            have hk9 : md_top 7 e + 1 - k37 = (md_top 7 e + 1 - (k37 + 1)) + 1 := by omega
            refine jk_convl (ih37 (by omega) (md_wr s1 (48 + e / md_u (md_top 7 e + 1 - k37) % 10)) ?_ ⟨by show 0 ≤ s1.2 + 1; omega, by show s1.2 + 1 ≤ _; omega⟩) (jk_loc rfl (jk_loc rfl (jk_loc rfl (jk_loc (jk_li ?_) rfl))))
            · rw [← hw, hk9]; rfl
            · rw [hk9, md_u_div]
        refine jk_convl (L37 0 (Nat.zero_le _) sx rfl ⟨by omega, by show _ ≤ 51 + (0 : Int); omega⟩) (jk_loc rfl (jk_loc rfl (jk_loc rfl (jk_loc (jk_li ?_) rfl))))
        show md_p10 (md_top 7 e) = _
        rw [md_topE (by omega) ht (by omega)]
      · refine jk_iload_n (q := 25) dX13_writesNumber_24 rfl rfl ?_
        refine jk_iload_n (q := 26) dX13_writesNumber_25 rfl rfl ?_
        refine jk_icmp_ge (q := 37) (q2 := 29) dX13_writesNumber_26 rfl rfl (by first | decide | omega | exact jB_01 _) (by first | decide | omega | exact jB_01 _) (fun h8 => ?_) (fun h8 => ?_)
        · have L37 : ∀ k37 : Nat, k37 ≤ (md_top 7 e + 1) → ∀ (s1 : (Int → Int) × Int), (hw : md_wls s1 (md_dg (md_top 7 e + 1 - k37) e) = md_wls sx (md_dg (md_top 7 e + 1) e)) → (h50 : 0 ≤ s1.2 ∧ s1.2 ≤ 51 + (k37 : Int)) → jk_J G mX13_writesNumber 37 [some (.ref m), some (jI v), some (jI e), some (jI (md_u (md_top 7 e + 1 - k37)))] [] n t (md_wS σ m O s1) ρ 0 0 (jk_q none n t (md_wS σ m O (md_wls s (md_dgs v))) ρ) jk_no := by
            refine jk_loop _ (fun k37 hk37 ih37 => ?_)
            intro s1 hw h50
            have htl := md_top_le 7 e
            have hub : 0 ≤ md_u (md_top 7 e + 1 - k37) ∧ md_u (md_top 7 e + 1 - k37) ≤ 10000000 := by
              match h9 : md_top 7 e + 1 - k37 with
              | 0 => exact ⟨Int.le_refl _, by decide⟩
              | j + 1 => have := md_p10_bd j (by omega); exact ⟨by show 0 ≤ md_p10 j; omega, this.2⟩
            have huz := md_u_z (k := md_top 7 e + 1 - k37) (by omega)
            have hup : 0 < md_u (md_top 7 e + 1 - k37) → 0 < md_top 7 e + 1 - k37 := fun h => by
              rcases Nat.eq_zero_or_pos (md_top 7 e + 1 - k37) with h9 | h9
              · rw [h9] at h; exact absurd h (by decide)
              · exact h9
            refine jk_iload_n (q := 38) dX13_writesNumber_37 rfl rfl ?_
            refine jk_if_le (q := 62) (q2 := 41) dX13_writesNumber_38 rfl rfl (by first | decide | omega | exact jB_01 _) (fun h9 => ?_) (fun h9 => ?_)
            · exact jk_ret rfl dX13_writesNumber_62 (by refine ⟨rfl, rfl, rfl, ?_, rfl⟩; unfold md_dgs; rw [he]; unfold md_wls; rw [List.foldl_append]; show md_wS σ m O s1 = md_wS σ m O (md_wls (md_wls s (if v < 0 then [45] else [])) (md_dg (md_top 7 e + 1) e)); rw [← hsx, ← hw, huz (by omega)]; rfl)
            · refine jk_aload_n (q := 42) dX13_writesNumber_41 rfl rfl ?_
              refine jk_bipush (q := 44) (y := 48) dX13_writesNumber_42 rfl (by decide) ?_
              refine jk_iload_n (q := 45) dX13_writesNumber_44 rfl rfl ?_
              refine jk_iload_n (q := 46) dX13_writesNumber_45 rfl rfl ?_
              refine jk_idivP (q := 47) dX13_writesNumber_46 rfl (by first | decide | omega | exact jB_01 _) ?_
              have hdv : 0 ≤ e / md_u (md_top 7 e + 1 - k37) ∧ e / md_u (md_top 7 e + 1 - k37) ≤ e := ⟨Int.ediv_nonneg (by omega) (by omega), Int.ediv_le_self _ (by omega)⟩
              refine jk_bipush (q := 49) (y := 10) dX13_writesNumber_47 rfl (by decide) ?_
              refine jk_iremP (q := 50) dX13_writesNumber_49 rfl (by first | decide | omega | exact jB_01 _) ?_
              refine jk_iadd (q := 51) dX13_writesNumber_50 rfl ?_
              refine jk_cV1v (q := 54) (c_X13_writes (O := O) hm (md_wS_at σ m O _).1 (md_wS_at σ m O _).2.1 ⟨by omega, by omega⟩ ⟨by omega, by omega⟩) jm_X13_writes jw_2359 rfl (by first | exact hm.1 | exact hm.2.1 _ _ rfl | assumption) rfl rfl rfl dX13_writesNumber_51 rfl ?_
              rw [show md_wS (md_wS σ m O s1) m O (md_wr s1 (48 + e / md_u (md_top 7 e + 1 - k37) % 10)) = md_wS σ m O (md_wr s1 (48 + e / md_u (md_top 7 e + 1 - k37) % 10)) by unfold md_wS; rw [jk_rr _ _ _ _ _ (by omega)]]
              refine jk_iload_n (q := 55) dX13_writesNumber_54 rfl rfl ?_
              refine jk_bipush (q := 57) (y := 10) dX13_writesNumber_55 rfl (by decide) ?_
              refine jk_idivP (q := 58) dX13_writesNumber_57 rfl (by first | decide | omega | exact jB_01 _) ?_
              refine jk_istore3 (q := 59) dX13_writesNumber_58 rfl rfl rfl ?_
              refine jk_goto (q := 37) dX13_writesNumber_59 rfl ?_
              have hup2 := hup (by omega)
              have hk9 : md_top 7 e + 1 - k37 = (md_top 7 e + 1 - (k37 + 1)) + 1 := by omega
              refine jk_convl (ih37 (by omega) (md_wr s1 (48 + e / md_u (md_top 7 e + 1 - k37) % 10)) ?_ ⟨by show 0 ≤ s1.2 + 1; omega, by show s1.2 + 1 ≤ _; omega⟩) (jk_loc rfl (jk_loc rfl (jk_loc rfl (jk_loc (jk_li ?_) rfl))))
              · rw [← hw, hk9]; rfl
              · rw [hk9, md_u_div]
          refine jk_convl (L37 0 (Nat.zero_le _) sx rfl ⟨by omega, by show _ ≤ 51 + (0 : Int); omega⟩) (jk_loc rfl (jk_loc rfl (jk_loc rfl (jk_loc (jk_li ?_) rfl))))
          show md_p10 (md_top 7 e) = _
          rw [md_topE (by omega) ht (by omega)]
        · refine jk_iload_n (q := 30) dX13_writesNumber_29 rfl rfl ?_
          refine jk_bipush (q := 32) (y := 10) dX13_writesNumber_30 rfl (by decide) ?_
          refine jk_idivP (q := 33) dX13_writesNumber_32 rfl (by first | decide | omega | exact jB_01 _) ?_
          refine jk_istore3 (q := 34) dX13_writesNumber_33 rfl rfl rfl ?_
          refine jk_goto (q := 19) dX13_writesNumber_34 rfl ?_
          refine jk_convl (ih19 (by
            rcases Nat.lt_or_ge k19 7 with h9 | h9
            · exact h9
            · rw [show 7 - k19 = 0 by omega] at *; exfalso; have : md_p10 0 = 1 := rfl; omega) ?_) (jk_loc rfl (jk_loc rfl (jk_loc rfl (jk_loc (jk_li ?_) rfl))))
          · rw [← ht, show 7 - k19 = (7 - (k19 + 1)) + 1 by
              rcases Nat.lt_or_ge k19 7 with h9 | h9
              · omega
              · rw [show 7 - k19 = 0 by omega] at *; exfalso; have : md_p10 0 = 1 := rfl; omega]
            conv => rhs; unfold md_top
            rw [if_pos (by rw [show 7 - (k19 + 1) + 1 = 7 - k19 by
              rcases Nat.lt_or_ge k19 7 with h9 | h9
              · omega
              · rw [show 7 - k19 = 0 by omega] at *; exfalso; have : md_p10 0 = 1 := rfl; omega]; omega)]
          · rcases Nat.lt_or_ge k19 7 with h9 | h9
            · rw [show 7 - k19 = (7 - (k19 + 1)) + 1 by omega]
              show _ = 10 * md_p10 (7 - (k19 + 1)) / 10
              omega
            · rw [show 7 - k19 = 0 by omega] at *; exfalso; have : md_p10 0 = 1 := rfl; omega
    exact L19 0 (Nat.zero_le _) rfl
end MD20
