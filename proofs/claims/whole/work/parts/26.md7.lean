section MD7
def md_rp (g T : Int → Int) (s : md_SS) (l : Int) : md_SS :=
  if T l = 1 ∧ s.1 (g (24 + l)) ≠ s.1 (g (40 + l)) then (jk_set (jk_set s.1 (g (24 + l)) 1) (g (40 + l)) 1, jk_set s.2 (if s.1 (g (24 + l)) = 0 then g (24 + l) else g (40 + l)) l) else s
def md_rl (g T : Int → Int) : Nat → md_SS → md_SS
  | 0, s => s
  | k + 1, s => md_rp g T (md_rl g T k s) (k : Int)
def md_r0 (f : Int) : md_SS := (fun p => if 0 ≤ p ∧ p < 10 then (if p = f then 1 else 0) else 0, fun p => if 0 ≤ p ∧ p < 10 then -1 else 0)
def md_rr (g T : Int → Int) (f : Int) : Nat → md_SS
  | 0 => md_r0 f
  | j + 1 => md_rl g T (g 1).toNat (md_rr g T f j)
/-- who is reached from f, and by which line -/
def md_reach (g T : Int → Int) (f : Int) : md_SS := md_rr g T f 10
theorem md_rp_kb {g T : Int → Int} {s : md_SS} (h : md_kb s.1) (l : Int) : md_kb (md_rp g T s l).1 := by
  unfold md_rp; split
  · exact md_set_kb (md_set_kb h _) _
  · exact h
theorem md_rl_kb {g T : Int → Int} {s : md_SS} (h : md_kb s.1) : ∀ k, md_kb (md_rl g T k s).1
  | 0 => h
  | k + 1 => md_rp_kb (md_rl_kb h k) _
theorem md_r0_kb (f : Int) : md_kb (md_r0 f).1 := fun p hp => by
  show (if _ then _ else _) = _ ∨ (if _ then _ else _) = _
  rw [if_pos hp]
  split
  · exact Or.inr rfl
  · exact Or.inl rfl
theorem md_rr_kb (g T : Int → Int) (f : Int) : ∀ j, md_kb (md_rr g T f j).1
  | 0 => md_r0_kb f
  | j + 1 => md_rl_kb (md_rr_kb g T f j) _
theorem c_X13_reaches {G : jk_G} {n : Nat} {t : jk_T} {σ : jk_I} {ρ : jk_P} {m : Nat} {g : Int → Int} {B : Int} {T : Int → Int} {f : Int} (hm : md_at t ρ m) (hg : σ (m + 2) = g) (hi : md_inv B g) (hk : σ (m + 14) = T) (hTb : ∀ l, 0 ≤ l ∧ l < 16 → T l = 0 ∨ T l = 1) (hz1 : md_z10 σ m) (hf : 0 ≤ f ∧ f < 10) : jk_K G yX13_reaches mX13_reaches 0 0 [.ref m, jI f] n t σ ρ (jk_q none n t (jk_row (jk_row σ (m + 26) (md_reach g T f).2) (m + 20) (md_reach g T f).1) ρ) jk_no := by
  refine jk_entryB (ls := [some (.ref m), some (jI f), none, none, none, none]) jm_X13_reaches.1 rfl rfl rfl ?_
  obtain ⟨i0, i1, -⟩ := id hi
  refine jk_iconst (q := 1) dX13_reaches_0 rfl ?_
  refine jk_istore2 (q := 2) dX13_reaches_1 rfl rfl rfl ?_
  have L2 : ∀ k2 : Nat, k2 ≤ 10 → ∀ (σ1 : jk_I), (hs1 : σ1 = jk_row (jk_row σ (m + 26) (jk_fill (σ (m + 26)) (fun _ => -1) k2)) (m + 20) (jk_fill (σ (m + 20)) (fun p => if p = f then 1 else 0) k2)) → jk_J G mX13_reaches 2 [some (.ref m), some (jI f), some (jI (k2 : Int)), none, none, none] [] n t σ1 ρ 0 0 (jk_q none n t (jk_row (jk_row σ (m + 26) (md_reach g T f).2) (m + 20) (md_reach g T f).1) ρ) jk_no := by
    refine jk_loop _ (fun k2 hk2 ih2 => ?_)
    intro σ1 hs1
    have hb1 : σ1 (m + 26) = jk_fill (σ (m + 26)) (fun _ => -1) k2 := by rw [hs1, jk_row_ne _ _ (by omega), jk_row_same]
    have hn1 : σ1 (m + 20) = jk_fill (σ (m + 20)) (fun p => if p = f then 1 else 0) k2 := by rw [hs1, jk_row_same]
    refine jk_iload_n (q := 3) dX13_reaches_2 rfl rfl ?_
    refine jk_bipush (q := 5) (y := 10) dX13_reaches_3 rfl (by decide) ?_
    refine jk_icmp_ge (q := 37) (q2 := 8) dX13_reaches_5 rfl rfl (by first | decide | omega | exact jB_01 _) (by first | decide | omega | exact jB_01 _) (fun h1 => ?_) (fun h1 => ?_)
    · refine jk_iconst (q := 38) dX13_reaches_37 rfl ?_
      refine jk_istore2 (q := 39) dX13_reaches_38 rfl rfl rfl ?_
      have L39 : ∀ k39 : Nat, k39 ≤ 10 → ∀ (σ1 : jk_I), (hs1 : σ1 = jk_row (jk_row σ (m + 26) (md_rr g T f k39).2) (m + 20) (md_rr g T f k39).1) → jk_J G mX13_reaches 39 [some (.ref m), some (jI f), some (jI (k39 : Int)), none, none, none] [] n t σ1 ρ 0 0 (jk_q none n t (jk_row (jk_row σ (m + 26) (md_reach g T f).2) (m + 20) (md_reach g T f).1) ρ) jk_no := by
        refine jk_loop _ (fun k39 hk39 ih39 => ?_)
        intro σ1 hs1
        have hg1 : σ1 (m + 2) = g := by rw [hs1, jk_row_ne _ _ (by omega), jk_row_ne _ _ (by omega)]; exact hg
        have hk1 : σ1 (m + 14) = T := by rw [hs1, jk_row_ne _ _ (by omega), jk_row_ne _ _ (by omega)]; exact hk
        have hb1 : σ1 (m + 26) = (md_rr g T f k39).2 := by rw [hs1, jk_row_ne _ _ (by omega), jk_row_same]
        have hn1 : σ1 (m + 20) = (md_rr g T f k39).1 := by rw [hs1, jk_row_same]
        refine jk_iload_n (q := 40) dX13_reaches_39 rfl rfl ?_
        refine jk_bipush (q := 42) (y := 10) dX13_reaches_40 rfl (by decide) ?_
        refine jk_icmp_ge (q := 157) (q2 := 45) dX13_reaches_42 rfl rfl (by first | decide | omega | exact jB_01 _) (by first | decide | omega | exact jB_01 _) (fun h2 => ?_) (fun h2 => ?_)
        · exact jk_ret rfl dX13_reaches_157 (by refine ⟨rfl, rfl, rfl, ?_, rfl⟩; rw [hs1, show k39 = 10 by omega]; rfl)
        · refine jk_iconst (q := 46) dX13_reaches_45 rfl ?_
          refine jk_istore3 (q := 47) dX13_reaches_46 rfl rfl rfl ?_
          have L47 : ∀ k47 : Nat, k47 ≤ (g 1).toNat → ∀ (σ1 : jk_I), (hs1 : σ1 = jk_row (jk_row σ (m + 26) (md_rl g T k47 (md_rr g T f k39)).2) (m + 20) (md_rl g T k47 (md_rr g T f k39)).1) → jk_J G mX13_reaches 47 [some (.ref m), some (jI f), some (jI (k39 : Int)), some (jI (k47 : Int)), none, none] [] n t σ1 ρ 0 0 (jk_q none n t (jk_row (jk_row σ (m + 26) (md_reach g T f).2) (m + 20) (md_reach g T f).1) ρ) jk_no := by
            refine jk_loop _ (fun k47 hk47 ih47 => ?_)
            intro σ1 hs1
            have hg1 : σ1 (m + 2) = g := by rw [hs1, jk_row_ne _ _ (by omega), jk_row_ne _ _ (by omega)]; exact hg
            have hk1 : σ1 (m + 14) = T := by rw [hs1, jk_row_ne _ _ (by omega), jk_row_ne _ _ (by omega)]; exact hk
            have hb1 : σ1 (m + 26) = (md_rl g T k47 (md_rr g T f k39)).2 := by rw [hs1, jk_row_ne _ _ (by omega), jk_row_same]
            have hn1 : σ1 (m + 20) = (md_rl g T k47 (md_rr g T f k39)).1 := by rw [hs1, jk_row_same]
            have hkb1 := md_rl_kb (g := g) (T := T) (md_rr_kb g T f k39) k47
            refine jk_iload_n (q := 48) dX13_reaches_47 rfl rfl ?_
            refine jk_aload_n (q := 49) dX13_reaches_48 rfl rfl ?_
            refine jk_getA (q := 52) (k := 13) 0 0 rfl (by first | exact hm.1 | exact hm.2.1 _ _ rfl | assumption) (by first | exact hm.2.2 _ _ rfl | assumption) rfl rfl jw_1848 dX13_reaches_49 rfl ?_
            refine jk_iconst (q := 53) dX13_reaches_52 rfl ?_
            refine jk_ialdR (q := 54) (by first | exact hm.1 | exact hm.2.1 _ _ rfl | assumption) (by first | exact jk_row_same _ _ _ | exact hg1 | exact hk1 | exact hb1 | exact hn1 | (rewrite [jk_row_ne _ _ (by omega)]; first | exact jk_row_same _ _ _ | exact hg1 | exact hk1 | exact hb1 | exact hn1 | (rewrite [jk_row_ne _ _ (by omega)]; first | exact jk_row_same _ _ _ | exact hg1 | exact hk1 | exact hb1 | exact hn1 | (rewrite [jk_row_ne _ _ (by omega)]; first | exact jk_row_same _ _ _ | exact hg1 | exact hk1 | exact hb1 | exact hn1 | (rewrite [jk_row_ne _ _ (by omega)]; first | exact hg1 | exact hk1 | exact hb1 | exact hn1 | rfl))))) (by first | decide | omega | exact jB_01 _) dX13_reaches_53 rfl ?_
            refine jk_icmp_ge (q := 151) (q2 := 57) dX13_reaches_54 rfl rfl (by first | decide | omega | exact jB_01 _) (by first | decide | omega | exact jB_01 _) (fun h3 => ?_) (fun h3 => ?_)
            · refine jk_iinc2 (q := 154) dX13_reaches_151 rfl rfl rfl ?_
              refine jk_goto (q := 39) dX13_reaches_154 rfl ?_
              refine jk_convw (ih39 (by omega) σ1 ?_) (jk_wkS rfl (jk_wkS rfl (jk_wkS rfl (jk_wkN (jk_wkN (jk_wkN jk_wk0))))))
              rw [hs1, show k47 = (g 1).toNat by omega]
              rfl
            · obtain ⟨e1, e2, -⟩ := md_inv_ln hi (l := (k47 : Int)) ⟨by omega, by omega⟩
              have ht := hTb (k47 : Int) ⟨by omega, by omega⟩
              have hka := hkb1 _ e1
              have hkb2 := hkb1 _ e2
              refine jk_aload_n (q := 58) dX13_reaches_57 rfl rfl ?_
              refine jk_getA (q := 61) (k := 13) 0 0 rfl (by first | exact hm.1 | exact hm.2.1 _ _ rfl | assumption) (by first | exact hm.2.2 _ _ rfl | assumption) rfl rfl jw_1848 dX13_reaches_58 rfl ?_
              refine jk_bipush (q := 63) (y := 24) dX13_reaches_61 rfl (by decide) ?_
              refine jk_iload_n (q := 64) dX13_reaches_63 rfl rfl ?_
              refine jk_iadd (q := 65) dX13_reaches_64 rfl ?_
              refine jk_ialdR (q := 66) (by first | exact hm.1 | exact hm.2.1 _ _ rfl | assumption) (by first | exact jk_row_same _ _ _ | exact hg1 | exact hk1 | exact hb1 | exact hn1 | (rewrite [jk_row_ne _ _ (by omega)]; first | exact jk_row_same _ _ _ | exact hg1 | exact hk1 | exact hb1 | exact hn1 | (rewrite [jk_row_ne _ _ (by omega)]; first | exact jk_row_same _ _ _ | exact hg1 | exact hk1 | exact hb1 | exact hn1 | (rewrite [jk_row_ne _ _ (by omega)]; first | exact jk_row_same _ _ _ | exact hg1 | exact hk1 | exact hb1 | exact hn1 | (rewrite [jk_row_ne _ _ (by omega)]; first | exact hg1 | exact hk1 | exact hb1 | exact hn1 | rfl))))) (by first | decide | omega | exact jB_01 _) dX13_reaches_65 rfl ?_
              refine jk_istore4 (q := 68) dX13_reaches_66 rfl rfl rfl ?_
              refine jk_aload_n (q := 69) dX13_reaches_68 rfl rfl ?_
              refine jk_getA (q := 72) (k := 13) 0 0 rfl (by first | exact hm.1 | exact hm.2.1 _ _ rfl | assumption) (by first | exact hm.2.2 _ _ rfl | assumption) rfl rfl jw_1848 dX13_reaches_69 rfl ?_
              refine jk_bipush (q := 74) (y := 40) dX13_reaches_72 rfl (by decide) ?_
              refine jk_iload_n (q := 75) dX13_reaches_74 rfl rfl ?_
              refine jk_iadd (q := 76) dX13_reaches_75 rfl ?_
              refine jk_ialdR (q := 77) (by first | exact hm.1 | exact hm.2.1 _ _ rfl | assumption) (by first | exact jk_row_same _ _ _ | exact hg1 | exact hk1 | exact hb1 | exact hn1 | (rewrite [jk_row_ne _ _ (by omega)]; first | exact jk_row_same _ _ _ | exact hg1 | exact hk1 | exact hb1 | exact hn1 | (rewrite [jk_row_ne _ _ (by omega)]; first | exact jk_row_same _ _ _ | exact hg1 | exact hk1 | exact hb1 | exact hn1 | (rewrite [jk_row_ne _ _ (by omega)]; first | exact jk_row_same _ _ _ | exact hg1 | exact hk1 | exact hb1 | exact hn1 | (rewrite [jk_row_ne _ _ (by omega)]; first | exact hg1 | exact hk1 | exact hb1 | exact hn1 | rfl))))) (by first | decide | omega | exact jB_01 _) dX13_reaches_76 rfl ?_
              refine jk_istore5 (q := 79) dX13_reaches_77 rfl rfl rfl ?_
              refine jk_aload_n (q := 80) dX13_reaches_79 rfl rfl ?_
              refine jk_getA (q := 83) (k := 13) 13 13 rfl (by first | exact hm.1 | exact hm.2.1 _ _ rfl | assumption) (by first | exact hm.2.2 _ _ rfl | assumption) rfl rfl jw_1861 dX13_reaches_80 rfl ?_
              refine jk_iload_n (q := 84) dX13_reaches_83 rfl rfl ?_
              refine jk_ialdR (q := 85) (by first | exact hm.1 | exact hm.2.1 _ _ rfl | assumption) (by first | exact jk_row_same _ _ _ | exact hg1 | exact hk1 | exact hb1 | exact hn1 | (rewrite [jk_row_ne _ _ (by omega)]; first | exact jk_row_same _ _ _ | exact hg1 | exact hk1 | exact hb1 | exact hn1 | (rewrite [jk_row_ne _ _ (by omega)]; first | exact jk_row_same _ _ _ | exact hg1 | exact hk1 | exact hb1 | exact hn1 | (rewrite [jk_row_ne _ _ (by omega)]; first | exact jk_row_same _ _ _ | exact hg1 | exact hk1 | exact hb1 | exact hn1 | (rewrite [jk_row_ne _ _ (by omega)]; first | exact hg1 | exact hk1 | exact hb1 | exact hn1 | rfl))))) (by first | decide | omega | exact jB_01 _) dX13_reaches_84 rfl ?_
              refine jk_iconst (q := 86) dX13_reaches_85 rfl ?_
              refine jk_icmp_ne (q := 145) (q2 := 89) dX13_reaches_86 rfl rfl (by first | decide | omega | exact jB_01 _) (by first | decide | omega | exact jB_01 _) (fun h4 => ?_) (fun h4 => ?_)
              · refine jk_iinc3 (q := 148) dX13_reaches_145 rfl rfl rfl ?_
                refine jk_goto (q := 47) dX13_reaches_148 rfl ?_
                refine jk_convw (ih47 (by omega) _ ?_) (jk_wkS rfl (jk_wkS rfl (jk_wkS rfl (jk_wkS rfl (jk_wkN (jk_wkN jk_wk0))))))
                first
                  | (rw [hs1, jk_row_row, jk_rr _ _ _ _ _ (by omega)]; simp only [md_rl]; unfold md_rp; rw [if_pos ⟨by assumption, by assumption⟩]; first | rw [if_pos (by assumption)] | rw [if_neg (by assumption)])
                  | (rw [hs1]; simp only [md_rl]; unfold md_rp; rw [if_neg (by intro hc; first | exact hc.2 (by assumption) | exact absurd hc.1 (by assumption))])
              · refine jk_aload_n (q := 90) dX13_reaches_89 rfl rfl ?_
                refine jk_getA (q := 93) (k := 13) 16 16 rfl (by first | exact hm.1 | exact hm.2.1 _ _ rfl | assumption) (by first | exact hm.2.2 _ _ rfl | assumption) rfl rfl jw_1864 dX13_reaches_90 rfl ?_
                refine jk_iload (q := 95) dX13_reaches_93 rfl rfl ?_
                refine jk_zaldR (q := 96) (by first | exact hm.1 | exact hm.2.1 _ _ rfl | assumption) (by first | exact jk_row_same _ _ _ | exact hg1 | exact hk1 | exact hb1 | exact hn1 | (rewrite [jk_row_ne _ _ (by omega)]; first | exact jk_row_same _ _ _ | exact hg1 | exact hk1 | exact hb1 | exact hn1 | (rewrite [jk_row_ne _ _ (by omega)]; first | exact jk_row_same _ _ _ | exact hg1 | exact hk1 | exact hb1 | exact hn1 | (rewrite [jk_row_ne _ _ (by omega)]; first | exact jk_row_same _ _ _ | exact hg1 | exact hk1 | exact hb1 | exact hn1 | (rewrite [jk_row_ne _ _ (by omega)]; first | exact hg1 | exact hk1 | exact hb1 | exact hn1 | rfl))))) (by first | decide | omega | exact jB_01 _) dX13_reaches_95 rfl ?_
                refine jk_aload_n (q := 97) dX13_reaches_96 rfl rfl ?_
                refine jk_getA (q := 100) (k := 13) 16 16 rfl (by first | exact hm.1 | exact hm.2.1 _ _ rfl | assumption) (by first | exact hm.2.2 _ _ rfl | assumption) rfl rfl jw_1864 dX13_reaches_97 rfl ?_
                refine jk_iload (q := 102) dX13_reaches_100 rfl rfl ?_
                refine jk_zaldR (q := 103) (by first | exact hm.1 | exact hm.2.1 _ _ rfl | assumption) (by first | exact jk_row_same _ _ _ | exact hg1 | exact hk1 | exact hb1 | exact hn1 | (rewrite [jk_row_ne _ _ (by omega)]; first | exact jk_row_same _ _ _ | exact hg1 | exact hk1 | exact hb1 | exact hn1 | (rewrite [jk_row_ne _ _ (by omega)]; first | exact jk_row_same _ _ _ | exact hg1 | exact hk1 | exact hb1 | exact hn1 | (rewrite [jk_row_ne _ _ (by omega)]; first | exact jk_row_same _ _ _ | exact hg1 | exact hk1 | exact hb1 | exact hn1 | (rewrite [jk_row_ne _ _ (by omega)]; first | exact hg1 | exact hk1 | exact hb1 | exact hn1 | rfl))))) (by first | decide | omega | exact jB_01 _) dX13_reaches_102 rfl ?_
                refine jk_icmp_eq (q := 145) (q2 := 106) dX13_reaches_103 rfl rfl (by first | decide | omega | exact jB_01 _) (by first | decide | omega | exact jB_01 _) (fun h5 => ?_) (fun h5 => ?_)
                · refine jk_iinc3 (q := 148) dX13_reaches_145 rfl rfl rfl ?_
                  refine jk_goto (q := 47) dX13_reaches_148 rfl ?_
                  refine jk_convw (ih47 (by omega) _ ?_) (jk_wkS rfl (jk_wkS rfl (jk_wkS rfl (jk_wkS rfl (jk_wkN (jk_wkN jk_wk0))))))
                  first
                    | (rw [hs1, jk_row_row, jk_rr _ _ _ _ _ (by omega)]; simp only [md_rl]; unfold md_rp; rw [if_pos ⟨by assumption, by assumption⟩]; first | rw [if_pos (by assumption)] | rw [if_neg (by assumption)])
                    | (rw [hs1]; simp only [md_rl]; unfold md_rp; rw [if_neg (by intro hc; first | exact hc.2 (by assumption) | exact absurd hc.1 (by assumption))])
                · refine jk_aload_n (q := 107) dX13_reaches_106 rfl rfl ?_
                  refine jk_getA (q := 110) (k := 13) 19 19 rfl (by first | exact hm.1 | exact hm.2.1 _ _ rfl | assumption) (by first | exact hm.2.2 _ _ rfl | assumption) rfl rfl jw_1867 dX13_reaches_107 rfl ?_
                  refine jk_aload_n (q := 111) dX13_reaches_110 rfl rfl ?_
                  refine jk_getA (q := 114) (k := 13) 16 16 rfl (by first | exact hm.1 | exact hm.2.1 _ _ rfl | assumption) (by first | exact hm.2.2 _ _ rfl | assumption) rfl rfl jw_1864 dX13_reaches_111 rfl ?_
                  refine jk_iload (q := 116) dX13_reaches_114 rfl rfl ?_
                  refine jk_zaldR (q := 117) (by first | exact hm.1 | exact hm.2.1 _ _ rfl | assumption) (by first | exact jk_row_same _ _ _ | exact hg1 | exact hk1 | exact hb1 | exact hn1 | (rewrite [jk_row_ne _ _ (by omega)]; first | exact jk_row_same _ _ _ | exact hg1 | exact hk1 | exact hb1 | exact hn1 | (rewrite [jk_row_ne _ _ (by omega)]; first | exact jk_row_same _ _ _ | exact hg1 | exact hk1 | exact hb1 | exact hn1 | (rewrite [jk_row_ne _ _ (by omega)]; first | exact jk_row_same _ _ _ | exact hg1 | exact hk1 | exact hb1 | exact hn1 | (rewrite [jk_row_ne _ _ (by omega)]; first | exact hg1 | exact hk1 | exact hb1 | exact hn1 | rfl))))) (by first | decide | omega | exact jB_01 _) dX13_reaches_116 rfl ?_
                  refine jk_if_eq (q := 125) (q2 := 120) dX13_reaches_117 rfl rfl (by first | decide | omega | exact jB_01 _) (fun h6 => ?_) (fun h6 => ?_)
                  · refine jk_iload (q := 127) dX13_reaches_125 rfl rfl ?_
                    refine jk_iload_n (q := 128) dX13_reaches_127 rfl rfl ?_
                    refine jk_iastR (q := 129) (by first | exact hm.1 | exact hm.2.1 _ _ rfl | assumption) (by first | exact jk_row_same _ _ _ | exact hg1 | exact hk1 | exact hb1 | exact hn1 | (rewrite [jk_row_ne _ _ (by omega)]; first | exact jk_row_same _ _ _ | exact hg1 | exact hk1 | exact hb1 | exact hn1 | (rewrite [jk_row_ne _ _ (by omega)]; first | exact jk_row_same _ _ _ | exact hg1 | exact hk1 | exact hb1 | exact hn1 | (rewrite [jk_row_ne _ _ (by omega)]; first | exact jk_row_same _ _ _ | exact hg1 | exact hk1 | exact hb1 | exact hn1 | (rewrite [jk_row_ne _ _ (by omega)]; first | exact hg1 | exact hk1 | exact hb1 | exact hn1 | rfl))))) (by first | decide | omega | exact jB_01 _) dX13_reaches_128 rfl ?_
                    refine jk_aload_n (q := 130) dX13_reaches_129 rfl rfl ?_
                    refine jk_getA (q := 133) (k := 13) 16 16 rfl (by first | exact hm.1 | exact hm.2.1 _ _ rfl | assumption) (by first | exact hm.2.2 _ _ rfl | assumption) rfl rfl jw_1864 dX13_reaches_130 rfl ?_
                    refine jk_iload (q := 135) dX13_reaches_133 rfl rfl ?_
                    refine jk_iconst (q := 136) dX13_reaches_135 rfl ?_
                    refine jk_zastR (q := 137) (by first | exact hm.1 | exact hm.2.1 _ _ rfl | assumption) (by first | exact jk_row_same _ _ _ | exact hg1 | exact hk1 | exact hb1 | exact hn1 | (rewrite [jk_row_ne _ _ (by omega)]; first | exact jk_row_same _ _ _ | exact hg1 | exact hk1 | exact hb1 | exact hn1 | (rewrite [jk_row_ne _ _ (by omega)]; first | exact jk_row_same _ _ _ | exact hg1 | exact hk1 | exact hb1 | exact hn1 | (rewrite [jk_row_ne _ _ (by omega)]; first | exact jk_row_same _ _ _ | exact hg1 | exact hk1 | exact hb1 | exact hn1 | (rewrite [jk_row_ne _ _ (by omega)]; first | exact hg1 | exact hk1 | exact hb1 | exact hn1 | rfl))))) (by first | decide | omega | exact jB_01 _) (by first | decide | omega | exact jB_01 _) dX13_reaches_136 rfl ?_
                    refine jk_aload_n (q := 138) dX13_reaches_137 rfl rfl ?_
                    refine jk_getA (q := 141) (k := 13) 16 16 rfl (by first | exact hm.1 | exact hm.2.1 _ _ rfl | assumption) (by first | exact hm.2.2 _ _ rfl | assumption) rfl rfl jw_1864 dX13_reaches_138 rfl ?_
                    refine jk_iload (q := 143) dX13_reaches_141 rfl rfl ?_
                    refine jk_iconst (q := 144) dX13_reaches_143 rfl ?_
                    refine jk_zastR (q := 145) (by first | exact hm.1 | exact hm.2.1 _ _ rfl | assumption) (by first | exact jk_row_same _ _ _ | exact hg1 | exact hk1 | exact hb1 | exact hn1 | (rewrite [jk_row_ne _ _ (by omega)]; first | exact jk_row_same _ _ _ | exact hg1 | exact hk1 | exact hb1 | exact hn1 | (rewrite [jk_row_ne _ _ (by omega)]; first | exact jk_row_same _ _ _ | exact hg1 | exact hk1 | exact hb1 | exact hn1 | (rewrite [jk_row_ne _ _ (by omega)]; first | exact jk_row_same _ _ _ | exact hg1 | exact hk1 | exact hb1 | exact hn1 | (rewrite [jk_row_ne _ _ (by omega)]; first | exact hg1 | exact hk1 | exact hb1 | exact hn1 | rfl))))) (by first | decide | omega | exact jB_01 _) (by first | decide | omega | exact jB_01 _) dX13_reaches_144 rfl ?_
                    refine jk_iinc3 (q := 148) dX13_reaches_145 rfl rfl rfl ?_
                    refine jk_goto (q := 47) dX13_reaches_148 rfl ?_
                    refine jk_convw (ih47 (by omega) _ ?_) (jk_wkS rfl (jk_wkS rfl (jk_wkS rfl (jk_wkS rfl (jk_wkN (jk_wkN jk_wk0))))))
                    first
                      | (rw [hs1, jk_row_row, jk_rr _ _ _ _ _ (by omega)]; simp only [md_rl]; unfold md_rp; rw [if_pos ⟨by assumption, by assumption⟩]; first | rw [if_pos (by assumption)] | rw [if_neg (by assumption)])
                      | (rw [hs1]; simp only [md_rl]; unfold md_rp; rw [if_neg (by intro hc; first | exact hc.2 (by assumption) | exact absurd hc.1 (by assumption))])
                  · refine jk_iload (q := 122) dX13_reaches_120 rfl rfl ?_
                    refine jk_goto (q := 127) dX13_reaches_122 rfl ?_
                    refine jk_iload_n (q := 128) dX13_reaches_127 rfl rfl ?_
                    refine jk_iastR (q := 129) (by first | exact hm.1 | exact hm.2.1 _ _ rfl | assumption) (by first | exact jk_row_same _ _ _ | exact hg1 | exact hk1 | exact hb1 | exact hn1 | (rewrite [jk_row_ne _ _ (by omega)]; first | exact jk_row_same _ _ _ | exact hg1 | exact hk1 | exact hb1 | exact hn1 | (rewrite [jk_row_ne _ _ (by omega)]; first | exact jk_row_same _ _ _ | exact hg1 | exact hk1 | exact hb1 | exact hn1 | (rewrite [jk_row_ne _ _ (by omega)]; first | exact jk_row_same _ _ _ | exact hg1 | exact hk1 | exact hb1 | exact hn1 | (rewrite [jk_row_ne _ _ (by omega)]; first | exact hg1 | exact hk1 | exact hb1 | exact hn1 | rfl))))) (by first | decide | omega | exact jB_01 _) dX13_reaches_128 rfl ?_
                    refine jk_aload_n (q := 130) dX13_reaches_129 rfl rfl ?_
                    refine jk_getA (q := 133) (k := 13) 16 16 rfl (by first | exact hm.1 | exact hm.2.1 _ _ rfl | assumption) (by first | exact hm.2.2 _ _ rfl | assumption) rfl rfl jw_1864 dX13_reaches_130 rfl ?_
                    refine jk_iload (q := 135) dX13_reaches_133 rfl rfl ?_
                    refine jk_iconst (q := 136) dX13_reaches_135 rfl ?_
                    refine jk_zastR (q := 137) (by first | exact hm.1 | exact hm.2.1 _ _ rfl | assumption) (by first | exact jk_row_same _ _ _ | exact hg1 | exact hk1 | exact hb1 | exact hn1 | (rewrite [jk_row_ne _ _ (by omega)]; first | exact jk_row_same _ _ _ | exact hg1 | exact hk1 | exact hb1 | exact hn1 | (rewrite [jk_row_ne _ _ (by omega)]; first | exact jk_row_same _ _ _ | exact hg1 | exact hk1 | exact hb1 | exact hn1 | (rewrite [jk_row_ne _ _ (by omega)]; first | exact jk_row_same _ _ _ | exact hg1 | exact hk1 | exact hb1 | exact hn1 | (rewrite [jk_row_ne _ _ (by omega)]; first | exact hg1 | exact hk1 | exact hb1 | exact hn1 | rfl))))) (by first | decide | omega | exact jB_01 _) (by first | decide | omega | exact jB_01 _) dX13_reaches_136 rfl ?_
                    refine jk_aload_n (q := 138) dX13_reaches_137 rfl rfl ?_
                    refine jk_getA (q := 141) (k := 13) 16 16 rfl (by first | exact hm.1 | exact hm.2.1 _ _ rfl | assumption) (by first | exact hm.2.2 _ _ rfl | assumption) rfl rfl jw_1864 dX13_reaches_138 rfl ?_
                    refine jk_iload (q := 143) dX13_reaches_141 rfl rfl ?_
                    refine jk_iconst (q := 144) dX13_reaches_143 rfl ?_
                    refine jk_zastR (q := 145) (by first | exact hm.1 | exact hm.2.1 _ _ rfl | assumption) (by first | exact jk_row_same _ _ _ | exact hg1 | exact hk1 | exact hb1 | exact hn1 | (rewrite [jk_row_ne _ _ (by omega)]; first | exact jk_row_same _ _ _ | exact hg1 | exact hk1 | exact hb1 | exact hn1 | (rewrite [jk_row_ne _ _ (by omega)]; first | exact jk_row_same _ _ _ | exact hg1 | exact hk1 | exact hb1 | exact hn1 | (rewrite [jk_row_ne _ _ (by omega)]; first | exact jk_row_same _ _ _ | exact hg1 | exact hk1 | exact hb1 | exact hn1 | (rewrite [jk_row_ne _ _ (by omega)]; first | exact hg1 | exact hk1 | exact hb1 | exact hn1 | rfl))))) (by first | decide | omega | exact jB_01 _) (by first | decide | omega | exact jB_01 _) dX13_reaches_144 rfl ?_
                    refine jk_iinc3 (q := 148) dX13_reaches_145 rfl rfl rfl ?_
                    refine jk_goto (q := 47) dX13_reaches_148 rfl ?_
                    refine jk_convw (ih47 (by omega) _ ?_) (jk_wkS rfl (jk_wkS rfl (jk_wkS rfl (jk_wkS rfl (jk_wkN (jk_wkN jk_wk0))))))
                    first
                      | (rw [hs1, jk_row_row, jk_rr _ _ _ _ _ (by omega)]; simp only [md_rl]; unfold md_rp; rw [if_pos ⟨by assumption, by assumption⟩]; first | rw [if_pos (by assumption)] | rw [if_neg (by assumption)])
                      | (rw [hs1]; simp only [md_rl]; unfold md_rp; rw [if_neg (by intro hc; first | exact hc.2 (by assumption) | exact absurd hc.1 (by assumption))])
          exact jk_convw (L47 0 (Nat.zero_le _) σ1 hs1) (jk_wkS rfl (jk_wkS rfl (jk_wkS rfl (jk_wkS rfl (jk_wkN (jk_wkN jk_wk0))))))
      refine L39 0 (Nat.zero_le _) σ1 ?_
      rw [hs1, show k2 = 10 by omega, jk_fill_all (fun p hp => (hz1 p hp).2.2.2), jk_fill_all (fun p hp => (hz1 p hp).2.2.1)]
      rfl
    · refine jk_aload_n (q := 9) dX13_reaches_8 rfl rfl ?_
      refine jk_getA (q := 12) (k := 13) 19 19 rfl (by first | exact hm.1 | exact hm.2.1 _ _ rfl | assumption) (by first | exact hm.2.2 _ _ rfl | assumption) rfl rfl jw_1867 dX13_reaches_9 rfl ?_
      refine jk_iload_n (q := 13) dX13_reaches_12 rfl rfl ?_
      refine jk_iconst (q := 14) dX13_reaches_13 rfl ?_
      refine jk_iastR (q := 15) (by first | exact hm.1 | exact hm.2.1 _ _ rfl | assumption) (by first | exact jk_row_same _ _ _ | exact hb1 | exact hn1 | (rewrite [jk_row_ne _ _ (by omega)]; first | exact jk_row_same _ _ _ | exact hb1 | exact hn1 | (rewrite [jk_row_ne _ _ (by omega)]; first | exact jk_row_same _ _ _ | exact hb1 | exact hn1 | (rewrite [jk_row_ne _ _ (by omega)]; first | exact jk_row_same _ _ _ | exact hb1 | exact hn1 | (rewrite [jk_row_ne _ _ (by omega)]; first | exact hb1 | exact hn1 | rfl))))) (by first | decide | omega | exact jB_01 _) dX13_reaches_14 rfl ?_
      refine jk_aload_n (q := 16) dX13_reaches_15 rfl rfl ?_
      refine jk_getA (q := 19) (k := 13) 16 16 rfl (by first | exact hm.1 | exact hm.2.1 _ _ rfl | assumption) (by first | exact hm.2.2 _ _ rfl | assumption) rfl rfl jw_1864 dX13_reaches_16 rfl ?_
      refine jk_iload_n (q := 20) dX13_reaches_19 rfl rfl ?_
      refine jk_iload_n (q := 21) dX13_reaches_20 rfl rfl ?_
      refine jk_iload_n (q := 22) dX13_reaches_21 rfl rfl ?_
      refine jk_icmp_ne (q := 29) (q2 := 25) dX13_reaches_22 rfl rfl (by first | decide | omega | exact jB_01 _) (by first | decide | omega | exact jB_01 _) (fun h7 => ?_) (fun h7 => ?_)
      · refine jk_iconst (q := 30) dX13_reaches_29 rfl ?_
        refine jk_zastR (q := 31) (by first | exact hm.1 | exact hm.2.1 _ _ rfl | assumption) (by first | exact jk_row_same _ _ _ | exact hb1 | exact hn1 | (rewrite [jk_row_ne _ _ (by omega)]; first | exact jk_row_same _ _ _ | exact hb1 | exact hn1 | (rewrite [jk_row_ne _ _ (by omega)]; first | exact jk_row_same _ _ _ | exact hb1 | exact hn1 | (rewrite [jk_row_ne _ _ (by omega)]; first | exact jk_row_same _ _ _ | exact hb1 | exact hn1 | (rewrite [jk_row_ne _ _ (by omega)]; first | exact hb1 | exact hn1 | rfl))))) (by first | decide | omega | exact jB_01 _) (by first | decide | omega | exact jB_01 _) dX13_reaches_30 rfl ?_
        refine jk_iinc2 (q := 34) dX13_reaches_31 rfl rfl rfl ?_
        refine jk_goto (q := 2) dX13_reaches_34 rfl ?_
        refine ih2 (by omega) _ ?_
        rw [hs1, jk_rr _ _ _ _ _ (by omega), jk_fill_S _ _ _ _ rfl, jk_fill_S _ _ _ _ (by first | rw [if_pos (by assumption)] | rw [if_neg (by assumption)])]
      · refine jk_iconst (q := 26) dX13_reaches_25 rfl ?_
        refine jk_goto (q := 30) dX13_reaches_26 rfl ?_
        refine jk_zastR (q := 31) (by first | exact hm.1 | exact hm.2.1 _ _ rfl | assumption) (by first | exact jk_row_same _ _ _ | exact hb1 | exact hn1 | (rewrite [jk_row_ne _ _ (by omega)]; first | exact jk_row_same _ _ _ | exact hb1 | exact hn1 | (rewrite [jk_row_ne _ _ (by omega)]; first | exact jk_row_same _ _ _ | exact hb1 | exact hn1 | (rewrite [jk_row_ne _ _ (by omega)]; first | exact jk_row_same _ _ _ | exact hb1 | exact hn1 | (rewrite [jk_row_ne _ _ (by omega)]; first | exact hb1 | exact hn1 | rfl))))) (by first | decide | omega | exact jB_01 _) (by first | decide | omega | exact jB_01 _) dX13_reaches_30 rfl ?_
        refine jk_iinc2 (q := 34) dX13_reaches_31 rfl rfl rfl ?_
        refine jk_goto (q := 2) dX13_reaches_34 rfl ?_
        refine ih2 (by omega) _ ?_
        rw [hs1, jk_rr _ _ _ _ _ (by omega), jk_fill_S _ _ _ _ rfl, jk_fill_S _ _ _ _ (by first | rw [if_pos (by assumption)] | rw [if_neg (by assumption)])]
  refine L2 0 (Nat.zero_le _) σ ?_
  rw [jk_fill_0, jk_fill_0, jk_row_self, jk_row_self]
theorem jk_r3 {α : Type} (f : Nat → Int → α) {a b c : Nat} (x y z : Int → α) (h1 : a ≠ b) (h2 : a ≠ c) : jk_row (jk_row (jk_row f a x) b y) c z = jk_row (jk_row (jk_row f b y) c z) a x := by
  rw [jk_row_comm f x y h1, jk_row_comm _ x z h2]
/-- a step back along the lines by which points were reached -/
def md_stp (g rb : Int → Int) (s : Int × (Int → Int)) : Int × (Int → Int) := (if g (24 + rb s.1) = s.1 then g (40 + rb s.1) else g (24 + rb s.1), jk_set s.2 (rb s.1) (if g (24 + rb s.1) = s.1 then 1 else -1))
def md_wlk (g rb : Int → Int) (p0 : Int) : Nat → Int × (Int → Int)
  | 0 => (p0, fun _ => 0)
  | i + 1 => md_stp g rb (md_wlk g rb p0 i)
def md_cw (g rb : Int → Int) (q : Int) : Nat → Int × (Int → Int) → Int × (Int → Int)
  | 0, s => s
  | f + 1, s => if s.1 = q then s else md_cw g rb q f (md_stp g rb s)
/-- J steps lead from p0 to q -/
def md_ok (g rb : Int → Int) (p0 q : Int) (J : Nat) : Prop := J ≤ 10 ∧ (md_wlk g rb p0 J).1 = q ∧ ∀ i, i < J → (md_wlk g rb p0 i).1 ≠ q ∧ (0 ≤ (md_wlk g rb p0 i).1 ∧ (md_wlk g rb p0 i).1 < 10) ∧ 0 ≤ rb (md_wlk g rb p0 i).1 ∧ rb (md_wlk g rb p0 i).1 < 16
theorem md_cw_q {g rb : Int → Int} {q : Int} {s : Int × (Int → Int)} (h : s.1 = q) : ∀ f, md_cw g rb q f s = s
  | 0 => rfl
  | f + 1 => if_pos h
theorem md_cw_eq {g rb : Int → Int} {p0 q : Int} {J : Nat} (h : md_ok g rb p0 q J) : ∀ d i e : Nat, i + d = J → md_cw g rb q (d + e) (md_wlk g rb p0 i) = md_wlk g rb p0 J
  | 0, i, e, hi => by
    have : i = J := by omega
    subst this
    exact md_cw_q h.2.1 _
  | d + 1, i, e, hi => by
    rw [show d + 1 + e = (d + e) + 1 by omega]
    show (if _ then _ else _) = _
    rw [if_neg (h.2.2 i (by omega)).1]
    exact md_cw_eq h d (i + 1) e (by omega)
/-- the signs of the lines of the loop that line l closes -/
def md_sgn (g T : Int → Int) (l : Int) : Int → Int := jk_set (md_cw g (md_reach g T (g (24 + l))).2 (g (24 + l)) 10 (g (40 + l), fun _ => 0)).2 l 1
theorem c_X13_circles {G : jk_G} {n : Nat} {t : jk_T} {σ : jk_I} {ρ : jk_P} {m : Nat} {g : Int → Int} {B : Int} {T : Int → Int} {l : Int} {J : Nat} (hm : md_at t ρ m) (hg : σ (m + 2) = g) (hi : md_inv B g) (hk : σ (m + 14) = T) (hTb : ∀ l, 0 ≤ l ∧ l < 16 → T l = 0 ∨ T l = 1) (hz : md_z σ m) (hz1 : md_z10 σ m) (hl : 0 ≤ l ∧ l < 16) (hJ : md_ok g (md_reach g T (g (24 + l))).2 (g (40 + l)) (g (24 + l)) J) : jk_K G yX13_circles mX13_circles 0 0 [.ref m, jI l] n t σ ρ (jk_q none n t (jk_row (jk_row (jk_row σ (m + 26) (md_reach g T (g (24 + l))).2) (m + 20) (md_reach g T (g (24 + l))).1) (m + 22) (md_sgn g T l)) ρ) jk_no := by
  refine jk_entryB (ls := [some (.ref m), some (jI l), none, none]) jm_X13_circles.1 rfl rfl rfl ?_
  obtain ⟨i0, i1, -⟩ := id hi
  obtain ⟨l1, l2, -⟩ := md_inv_ln hi hl
  refine jk_iconst (q := 1) dX13_circles_0 rfl ?_
  refine jk_istore2 (q := 2) dX13_circles_1 rfl rfl rfl ?_
  have L2 : ∀ k2 : Nat, k2 ≤ 16 → ∀ (σ1 : jk_I), (hs1 : σ1 = jk_row σ (m + 22) (jk_fill (σ (m + 22)) (fun _ => 0) k2)) → jk_J G mX13_circles 2 [some (.ref m), some (jI l), some (jI (k2 : Int)), none] [] n t σ1 ρ 0 0 (jk_q none n t (jk_row (jk_row (jk_row σ (m + 26) (md_reach g T (g (24 + l))).2) (m + 20) (md_reach g T (g (24 + l))).1) (m + 22) (md_sgn g T l)) ρ) jk_no := by
    refine jk_loop _ (fun k2 hk2 ih2 => ?_)
    intro σ1 hs1
    have hg1 : σ1 (m + 2) = g := by rw [hs1, jk_row_ne _ _ (by omega)]; exact hg
    have hr1 : σ1 (m + 22) = jk_fill (σ (m + 22)) (fun _ => 0) k2 := by rw [hs1, jk_row_same]
    refine jk_iload_n (q := 3) dX13_circles_2 rfl rfl ?_
    refine jk_bipush (q := 5) (y := 16) dX13_circles_3 rfl (by decide) ?_
    refine jk_icmp_ge (q := 21) (q2 := 8) dX13_circles_5 rfl rfl (by first | decide | omega | exact jB_01 _) (by first | decide | omega | exact jB_01 _) (fun h1 => ?_) (fun h1 => ?_)
    · refine jk_aload_n (q := 22) dX13_circles_21 rfl rfl ?_
      refine jk_aload_n (q := 23) dX13_circles_22 rfl rfl ?_
      refine jk_getA (q := 26) (k := 13) 0 0 rfl (by first | exact hm.1 | exact hm.2.1 _ _ rfl | assumption) (by first | exact hm.2.2 _ _ rfl | assumption) rfl rfl jw_1848 dX13_circles_23 rfl ?_
      refine jk_bipush (q := 28) (y := 24) dX13_circles_26 rfl (by decide) ?_
      refine jk_iload_n (q := 29) dX13_circles_28 rfl rfl ?_
      refine jk_iadd (q := 30) dX13_circles_29 rfl ?_
      refine jk_ialdR (q := 31) (by first | exact hm.1 | exact hm.2.1 _ _ rfl | assumption) (by first | exact jk_row_same _ _ _ | exact hr1 | exact hg1 | (rewrite [jk_row_ne _ _ (by omega)]; first | exact jk_row_same _ _ _ | exact hr1 | exact hg1 | (rewrite [jk_row_ne _ _ (by omega)]; first | exact jk_row_same _ _ _ | exact hr1 | exact hg1 | (rewrite [jk_row_ne _ _ (by omega)]; first | exact jk_row_same _ _ _ | exact hr1 | exact hg1 | (rewrite [jk_row_ne _ _ (by omega)]; first | exact hr1 | exact hg1 | rfl))))) (by first | decide | omega | exact jB_01 _) dX13_circles_30 rfl ?_
      refine jk_cV1v (q := 34) (c_X13_reaches hm (by rw [hs1, jk_row_ne _ _ (by omega)]; exact hg) hi (by rw [hs1, jk_row_ne _ _ (by omega)]; exact hk) hTb (fun p hp => by rw [hs1, jk_row_ne _ _ (by omega), jk_row_ne _ _ (by omega), jk_row_ne _ _ (by omega), jk_row_ne _ _ (by omega)]; exact hz1 p hp) l1) jm_X13_reaches jw_2071 rfl (by first | exact hm.1 | exact hm.2.1 _ _ rfl | assumption) rfl rfl rfl dX13_circles_31 rfl ?_
      refine jk_aload_n (q := 35) dX13_circles_34 rfl rfl ?_
      refine jk_getA (q := 38) (k := 13) 0 0 rfl (by first | exact hm.1 | exact hm.2.1 _ _ rfl | assumption) (by first | exact hm.2.2 _ _ rfl | assumption) rfl rfl jw_1848 dX13_circles_35 rfl ?_
      refine jk_bipush (q := 40) (y := 40) dX13_circles_38 rfl (by decide) ?_
      refine jk_iload_n (q := 41) dX13_circles_40 rfl rfl ?_
      refine jk_iadd (q := 42) dX13_circles_41 rfl ?_
      refine jk_ialdR (q := 43) (by first | exact hm.1 | exact hm.2.1 _ _ rfl | assumption) (by first | exact jk_row_same _ _ _ | exact hr1 | exact hg1 | (rewrite [jk_row_ne _ _ (by omega)]; first | exact jk_row_same _ _ _ | exact hr1 | exact hg1 | (rewrite [jk_row_ne _ _ (by omega)]; first | exact jk_row_same _ _ _ | exact hr1 | exact hg1 | (rewrite [jk_row_ne _ _ (by omega)]; first | exact jk_row_same _ _ _ | exact hr1 | exact hg1 | (rewrite [jk_row_ne _ _ (by omega)]; first | exact hr1 | exact hg1 | rfl))))) (by first | decide | omega | exact jB_01 _) dX13_circles_42 rfl ?_
      refine jk_istore2 (q := 44) dX13_circles_43 rfl rfl rfl ?_
      have L44 : ∀ k44 : Nat, k44 ≤ J → ∀ (σ1 : jk_I), (hs1 : σ1 = jk_row (jk_row (jk_row σ (m + 26) (md_reach g T (g (24 + l))).2) (m + 20) (md_reach g T (g (24 + l))).1) (m + 22) (md_wlk g (md_reach g T (g (24 + l))).2 (g (40 + l)) k44).2) → jk_J G mX13_circles 44 [some (.ref m), some (jI l), some (jI (md_wlk g (md_reach g T (g (24 + l))).2 (g (40 + l)) k44).1), none] [] n t σ1 ρ 0 0 (jk_q none n t (jk_row (jk_row (jk_row σ (m + 26) (md_reach g T (g (24 + l))).2) (m + 20) (md_reach g T (g (24 + l))).1) (m + 22) (md_sgn g T l)) ρ) jk_no := by
        refine jk_loop _ (fun k44 hk44 ih44 => ?_)
        intro σ1 hs1
        have hg1 : σ1 (m + 2) = g := by rw [hs1, jk_row_ne _ _ (by omega), jk_row_ne _ _ (by omega), jk_row_ne _ _ (by omega)]; exact hg
        have hb1 : σ1 (m + 26) = (md_reach g T (g (24 + l))).2 := by rw [hs1, jk_row_ne _ _ (by omega), jk_row_ne _ _ (by omega), jk_row_same]
        have hr1 : σ1 (m + 22) = (md_wlk g (md_reach g T (g (24 + l))).2 (g (40 + l)) k44).2 := by rw [hs1, jk_row_same]
        have hpt : 0 ≤ (md_wlk g (md_reach g T (g (24 + l))).2 (g (40 + l)) k44).1 ∧ (md_wlk g (md_reach g T (g (24 + l))).2 (g (40 + l)) k44).1 < 10 := by
          by_cases hkJ : k44 = J
          · rw [hkJ, hJ.2.1]; exact l1
          · exact (hJ.2.2 k44 (by omega)).2.1
        refine jk_iload_n (q := 45) dX13_circles_44 rfl rfl ?_
        refine jk_aload_n (q := 46) dX13_circles_45 rfl rfl ?_
        refine jk_getA (q := 49) (k := 13) 0 0 rfl (by first | exact hm.1 | exact hm.2.1 _ _ rfl | assumption) (by first | exact hm.2.2 _ _ rfl | assumption) rfl rfl jw_1848 dX13_circles_46 rfl ?_
        refine jk_bipush (q := 51) (y := 24) dX13_circles_49 rfl (by decide) ?_
        refine jk_iload_n (q := 52) dX13_circles_51 rfl rfl ?_
        refine jk_iadd (q := 53) dX13_circles_52 rfl ?_
        refine jk_ialdR (q := 54) (by first | exact hm.1 | exact hm.2.1 _ _ rfl | assumption) (by first | exact jk_row_same _ _ _ | exact hg1 | exact hb1 | exact hr1 | (rewrite [jk_row_ne _ _ (by omega)]; first | exact jk_row_same _ _ _ | exact hg1 | exact hb1 | exact hr1 | (rewrite [jk_row_ne _ _ (by omega)]; first | exact jk_row_same _ _ _ | exact hg1 | exact hb1 | exact hr1 | (rewrite [jk_row_ne _ _ (by omega)]; first | exact jk_row_same _ _ _ | exact hg1 | exact hb1 | exact hr1 | (rewrite [jk_row_ne _ _ (by omega)]; first | exact hg1 | exact hb1 | exact hr1 | rfl))))) (by first | decide | omega | exact jB_01 _) dX13_circles_53 rfl ?_
        refine jk_icmp_eq (q := 126) (q2 := 57) dX13_circles_54 rfl rfl (by first | decide | omega | exact jB_01 _) (by first | decide | omega | exact jB_01 _) (fun h2 => ?_) (fun h2 => ?_)
        · refine jk_aload_n (q := 127) dX13_circles_126 rfl rfl ?_
          refine jk_getA (q := 130) (k := 13) 17 17 rfl (by first | exact hm.1 | exact hm.2.1 _ _ rfl | assumption) (by first | exact hm.2.2 _ _ rfl | assumption) rfl rfl jw_1865 dX13_circles_127 rfl ?_
          refine jk_iload_n (q := 131) dX13_circles_130 rfl rfl ?_
          refine jk_iconst (q := 132) dX13_circles_131 rfl ?_
          refine jk_iastR (q := 133) (by first | exact hm.1 | exact hm.2.1 _ _ rfl | assumption) (by first | exact jk_row_same _ _ _ | exact hg1 | exact hb1 | exact hr1 | (rewrite [jk_row_ne _ _ (by omega)]; first | exact jk_row_same _ _ _ | exact hg1 | exact hb1 | exact hr1 | (rewrite [jk_row_ne _ _ (by omega)]; first | exact jk_row_same _ _ _ | exact hg1 | exact hb1 | exact hr1 | (rewrite [jk_row_ne _ _ (by omega)]; first | exact jk_row_same _ _ _ | exact hg1 | exact hb1 | exact hr1 | (rewrite [jk_row_ne _ _ (by omega)]; first | exact hg1 | exact hb1 | exact hr1 | rfl))))) (by first | decide | omega | exact jB_01 _) dX13_circles_132 rfl ?_
          exact jk_ret rfl dX13_circles_133 (by refine ⟨rfl, rfl, rfl, ?_, rfl⟩; rw [hs1, jk_row_row]; unfold md_sgn; have h9 := md_cw_eq hJ (J - 0) 0 (10 - J) (by omega); rw [show J - 0 + (10 - J) = 10 by have := hJ.1; omega] at h9; rw [show (g (40 + l), fun _ => (0 : Int)) = md_wlk g (md_reach g T (g (24 + l))).2 (g (40 + l)) 0 from rfl, h9, show J = k44 from by rcases Nat.lt_or_ge k44 J with h8 | h8; exact absurd (by assumption) (hJ.2.2 k44 h8).1; omega])
        · have hlt : k44 < J := by
            rcases Nat.lt_or_ge k44 J with h9 | h9
            · exact h9
            · have e9 : k44 = J := by omega
              exfalso
              have := hJ.2.1
              rw [← e9] at this
              contradiction
          have hrbk := (hJ.2.2 k44 hlt).2.2
          obtain ⟨e1, e2, -⟩ := md_inv_ln hi hrbk
          refine jk_aload_n (q := 58) dX13_circles_57 rfl rfl ?_
          refine jk_getA (q := 61) (k := 13) 19 19 rfl (by first | exact hm.1 | exact hm.2.1 _ _ rfl | assumption) (by first | exact hm.2.2 _ _ rfl | assumption) rfl rfl jw_1867 dX13_circles_58 rfl ?_
          refine jk_iload_n (q := 62) dX13_circles_61 rfl rfl ?_
          refine jk_ialdR (q := 63) (by first | exact hm.1 | exact hm.2.1 _ _ rfl | assumption) (by first | exact jk_row_same _ _ _ | exact hg1 | exact hb1 | exact hr1 | (rewrite [jk_row_ne _ _ (by omega)]; first | exact jk_row_same _ _ _ | exact hg1 | exact hb1 | exact hr1 | (rewrite [jk_row_ne _ _ (by omega)]; first | exact jk_row_same _ _ _ | exact hg1 | exact hb1 | exact hr1 | (rewrite [jk_row_ne _ _ (by omega)]; first | exact jk_row_same _ _ _ | exact hg1 | exact hb1 | exact hr1 | (rewrite [jk_row_ne _ _ (by omega)]; first | exact hg1 | exact hb1 | exact hr1 | rfl))))) (by first | decide | omega | exact jB_01 _) dX13_circles_62 rfl ?_
          refine jk_istore3 (q := 64) dX13_circles_63 rfl rfl rfl ?_
          refine jk_aload_n (q := 65) dX13_circles_64 rfl rfl ?_
          refine jk_getA (q := 68) (k := 13) 17 17 rfl (by first | exact hm.1 | exact hm.2.1 _ _ rfl | assumption) (by first | exact hm.2.2 _ _ rfl | assumption) rfl rfl jw_1865 dX13_circles_65 rfl ?_
          refine jk_iload_n (q := 69) dX13_circles_68 rfl rfl ?_
          refine jk_aload_n (q := 70) dX13_circles_69 rfl rfl ?_
          refine jk_getA (q := 73) (k := 13) 0 0 rfl (by first | exact hm.1 | exact hm.2.1 _ _ rfl | assumption) (by first | exact hm.2.2 _ _ rfl | assumption) rfl rfl jw_1848 dX13_circles_70 rfl ?_
          refine jk_bipush (q := 75) (y := 24) dX13_circles_73 rfl (by decide) ?_
          refine jk_iload_n (q := 76) dX13_circles_75 rfl rfl ?_
          refine jk_iadd (q := 77) dX13_circles_76 rfl ?_
          refine jk_ialdR (q := 78) (by first | exact hm.1 | exact hm.2.1 _ _ rfl | assumption) (by first | exact jk_row_same _ _ _ | exact hg1 | exact hb1 | exact hr1 | (rewrite [jk_row_ne _ _ (by omega)]; first | exact jk_row_same _ _ _ | exact hg1 | exact hb1 | exact hr1 | (rewrite [jk_row_ne _ _ (by omega)]; first | exact jk_row_same _ _ _ | exact hg1 | exact hb1 | exact hr1 | (rewrite [jk_row_ne _ _ (by omega)]; first | exact jk_row_same _ _ _ | exact hg1 | exact hb1 | exact hr1 | (rewrite [jk_row_ne _ _ (by omega)]; first | exact hg1 | exact hb1 | exact hr1 | rfl))))) (by first | decide | omega | exact jB_01 _) dX13_circles_77 rfl ?_
          refine jk_iload_n (q := 79) dX13_circles_78 rfl rfl ?_
          refine jk_icmp_ne (q := 86) (q2 := 82) dX13_circles_79 rfl rfl (by first | decide | omega | exact jB_01 _) (by first | decide | omega | exact jB_01 _) (fun h3 => ?_) (fun h3 => ?_)
          · refine jk_iconst (q := 87) dX13_circles_86 rfl ?_
            refine jk_iastR (q := 88) (by first | exact hm.1 | exact hm.2.1 _ _ rfl | assumption) (by first | exact jk_row_same _ _ _ | exact hg1 | exact hb1 | exact hr1 | (rewrite [jk_row_ne _ _ (by omega)]; first | exact jk_row_same _ _ _ | exact hg1 | exact hb1 | exact hr1 | (rewrite [jk_row_ne _ _ (by omega)]; first | exact jk_row_same _ _ _ | exact hg1 | exact hb1 | exact hr1 | (rewrite [jk_row_ne _ _ (by omega)]; first | exact jk_row_same _ _ _ | exact hg1 | exact hb1 | exact hr1 | (rewrite [jk_row_ne _ _ (by omega)]; first | exact hg1 | exact hb1 | exact hr1 | rfl))))) (by first | decide | omega | exact jB_01 _) dX13_circles_87 rfl ?_
            refine jk_aload_n (q := 89) dX13_circles_88 rfl rfl ?_
            refine jk_getA (q := 92) (k := 13) 0 0 rfl (by first | exact hm.1 | exact hm.2.1 _ _ rfl | assumption) (by first | exact hm.2.2 _ _ rfl | assumption) rfl rfl jw_1848 dX13_circles_89 rfl ?_
            refine jk_bipush (q := 94) (y := 24) dX13_circles_92 rfl (by decide) ?_
            refine jk_iload_n (q := 95) dX13_circles_94 rfl rfl ?_
            refine jk_iadd (q := 96) dX13_circles_95 rfl ?_
            refine jk_ialdR (q := 97) (by first | exact hm.1 | exact hm.2.1 _ _ rfl | assumption) (by first | exact jk_row_same _ _ _ | exact hg1 | exact hb1 | exact hr1 | (rewrite [jk_row_ne _ _ (by omega)]; first | exact jk_row_same _ _ _ | exact hg1 | exact hb1 | exact hr1 | (rewrite [jk_row_ne _ _ (by omega)]; first | exact jk_row_same _ _ _ | exact hg1 | exact hb1 | exact hr1 | (rewrite [jk_row_ne _ _ (by omega)]; first | exact jk_row_same _ _ _ | exact hg1 | exact hb1 | exact hr1 | (rewrite [jk_row_ne _ _ (by omega)]; first | exact hg1 | exact hb1 | exact hr1 | rfl))))) (by first | decide | omega | exact jB_01 _) dX13_circles_96 rfl ?_
            refine jk_iload_n (q := 98) dX13_circles_97 rfl rfl ?_
            refine jk_icmp_ne (q := 113) (q2 := 101) dX13_circles_98 rfl rfl (by first | decide | omega | exact jB_01 _) (by first | decide | omega | exact jB_01 _) (fun h4 => ?_) (fun h4 => ?_)
            · refine jk_aload_n (q := 114) dX13_circles_113 rfl rfl ?_
              refine jk_getA (q := 117) (k := 13) 0 0 rfl (by first | exact hm.1 | exact hm.2.1 _ _ rfl | assumption) (by first | exact hm.2.2 _ _ rfl | assumption) rfl rfl jw_1848 dX13_circles_114 rfl ?_
              refine jk_bipush (q := 119) (y := 24) dX13_circles_117 rfl (by decide) ?_
              refine jk_iload_n (q := 120) dX13_circles_119 rfl rfl ?_
              refine jk_iadd (q := 121) dX13_circles_120 rfl ?_
              refine jk_ialdR (q := 122) (by first | exact hm.1 | exact hm.2.1 _ _ rfl | assumption) (by first | exact jk_row_same _ _ _ | exact hg1 | exact hb1 | exact hr1 | (rewrite [jk_row_ne _ _ (by omega)]; first | exact jk_row_same _ _ _ | exact hg1 | exact hb1 | exact hr1 | (rewrite [jk_row_ne _ _ (by omega)]; first | exact jk_row_same _ _ _ | exact hg1 | exact hb1 | exact hr1 | (rewrite [jk_row_ne _ _ (by omega)]; first | exact jk_row_same _ _ _ | exact hg1 | exact hb1 | exact hr1 | (rewrite [jk_row_ne _ _ (by omega)]; first | exact hg1 | exact hb1 | exact hr1 | rfl))))) (by first | decide | omega | exact jB_01 _) dX13_circles_121 rfl ?_
              refine jk_istore2 (q := 123) dX13_circles_122 rfl rfl rfl ?_
              refine jk_goto (q := 44) dX13_circles_123 rfl ?_
              first
              | contradiction
              | (refine jk_convw (ih44 hlt _ ?_) (jk_wkS rfl (jk_wkS rfl (jk_wkS (jk_li ?_) (jk_wkN jk_wk0))))
                 · rw [hs1, jk_row_row]
                   show _ = jk_row _ _ (jk_set _ _ (if _ then _ else _))
                   first | rw [if_pos (by assumption)] | rw [if_neg (by assumption)]
                 · show (if _ then _ else _) = _
                   first | rw [if_pos (by assumption)] | rw [if_neg (by assumption)])
            · refine jk_aload_n (q := 102) dX13_circles_101 rfl rfl ?_
              refine jk_getA (q := 105) (k := 13) 0 0 rfl (by first | exact hm.1 | exact hm.2.1 _ _ rfl | assumption) (by first | exact hm.2.2 _ _ rfl | assumption) rfl rfl jw_1848 dX13_circles_102 rfl ?_
              refine jk_bipush (q := 107) (y := 40) dX13_circles_105 rfl (by decide) ?_
              refine jk_iload_n (q := 108) dX13_circles_107 rfl rfl ?_
              refine jk_iadd (q := 109) dX13_circles_108 rfl ?_
              refine jk_ialdR (q := 110) (by first | exact hm.1 | exact hm.2.1 _ _ rfl | assumption) (by first | exact jk_row_same _ _ _ | exact hg1 | exact hb1 | exact hr1 | (rewrite [jk_row_ne _ _ (by omega)]; first | exact jk_row_same _ _ _ | exact hg1 | exact hb1 | exact hr1 | (rewrite [jk_row_ne _ _ (by omega)]; first | exact jk_row_same _ _ _ | exact hg1 | exact hb1 | exact hr1 | (rewrite [jk_row_ne _ _ (by omega)]; first | exact jk_row_same _ _ _ | exact hg1 | exact hb1 | exact hr1 | (rewrite [jk_row_ne _ _ (by omega)]; first | exact hg1 | exact hb1 | exact hr1 | rfl))))) (by first | decide | omega | exact jB_01 _) dX13_circles_109 rfl ?_
              refine jk_goto (q := 122) dX13_circles_110 rfl ?_
              refine jk_istore2 (q := 123) dX13_circles_122 rfl rfl rfl ?_
              refine jk_goto (q := 44) dX13_circles_123 rfl ?_
              first
              | contradiction
              | (refine jk_convw (ih44 hlt _ ?_) (jk_wkS rfl (jk_wkS rfl (jk_wkS (jk_li ?_) (jk_wkN jk_wk0))))
                 · rw [hs1, jk_row_row]
                   show _ = jk_row _ _ (jk_set _ _ (if _ then _ else _))
                   first | rw [if_pos (by assumption)] | rw [if_neg (by assumption)]
                 · show (if _ then _ else _) = _
                   first | rw [if_pos (by assumption)] | rw [if_neg (by assumption)])
          · refine jk_iconst (q := 83) dX13_circles_82 rfl ?_
            refine jk_goto (q := 87) dX13_circles_83 rfl ?_
            refine jk_iastR (q := 88) (by first | exact hm.1 | exact hm.2.1 _ _ rfl | assumption) (by first | exact jk_row_same _ _ _ | exact hg1 | exact hb1 | exact hr1 | (rewrite [jk_row_ne _ _ (by omega)]; first | exact jk_row_same _ _ _ | exact hg1 | exact hb1 | exact hr1 | (rewrite [jk_row_ne _ _ (by omega)]; first | exact jk_row_same _ _ _ | exact hg1 | exact hb1 | exact hr1 | (rewrite [jk_row_ne _ _ (by omega)]; first | exact jk_row_same _ _ _ | exact hg1 | exact hb1 | exact hr1 | (rewrite [jk_row_ne _ _ (by omega)]; first | exact hg1 | exact hb1 | exact hr1 | rfl))))) (by first | decide | omega | exact jB_01 _) dX13_circles_87 rfl ?_
            refine jk_aload_n (q := 89) dX13_circles_88 rfl rfl ?_
            refine jk_getA (q := 92) (k := 13) 0 0 rfl (by first | exact hm.1 | exact hm.2.1 _ _ rfl | assumption) (by first | exact hm.2.2 _ _ rfl | assumption) rfl rfl jw_1848 dX13_circles_89 rfl ?_
            refine jk_bipush (q := 94) (y := 24) dX13_circles_92 rfl (by decide) ?_
            refine jk_iload_n (q := 95) dX13_circles_94 rfl rfl ?_
            refine jk_iadd (q := 96) dX13_circles_95 rfl ?_
            refine jk_ialdR (q := 97) (by first | exact hm.1 | exact hm.2.1 _ _ rfl | assumption) (by first | exact jk_row_same _ _ _ | exact hg1 | exact hb1 | exact hr1 | (rewrite [jk_row_ne _ _ (by omega)]; first | exact jk_row_same _ _ _ | exact hg1 | exact hb1 | exact hr1 | (rewrite [jk_row_ne _ _ (by omega)]; first | exact jk_row_same _ _ _ | exact hg1 | exact hb1 | exact hr1 | (rewrite [jk_row_ne _ _ (by omega)]; first | exact jk_row_same _ _ _ | exact hg1 | exact hb1 | exact hr1 | (rewrite [jk_row_ne _ _ (by omega)]; first | exact hg1 | exact hb1 | exact hr1 | rfl))))) (by first | decide | omega | exact jB_01 _) dX13_circles_96 rfl ?_
            refine jk_iload_n (q := 98) dX13_circles_97 rfl rfl ?_
            refine jk_icmp_ne (q := 113) (q2 := 101) dX13_circles_98 rfl rfl (by first | decide | omega | exact jB_01 _) (by first | decide | omega | exact jB_01 _) (fun h5 => ?_) (fun h5 => ?_)
            · refine jk_aload_n (q := 114) dX13_circles_113 rfl rfl ?_
              refine jk_getA (q := 117) (k := 13) 0 0 rfl (by first | exact hm.1 | exact hm.2.1 _ _ rfl | assumption) (by first | exact hm.2.2 _ _ rfl | assumption) rfl rfl jw_1848 dX13_circles_114 rfl ?_
              refine jk_bipush (q := 119) (y := 24) dX13_circles_117 rfl (by decide) ?_
              refine jk_iload_n (q := 120) dX13_circles_119 rfl rfl ?_
              refine jk_iadd (q := 121) dX13_circles_120 rfl ?_
              refine jk_ialdR (q := 122) (by first | exact hm.1 | exact hm.2.1 _ _ rfl | assumption) (by first | exact jk_row_same _ _ _ | exact hg1 | exact hb1 | exact hr1 | (rewrite [jk_row_ne _ _ (by omega)]; first | exact jk_row_same _ _ _ | exact hg1 | exact hb1 | exact hr1 | (rewrite [jk_row_ne _ _ (by omega)]; first | exact jk_row_same _ _ _ | exact hg1 | exact hb1 | exact hr1 | (rewrite [jk_row_ne _ _ (by omega)]; first | exact jk_row_same _ _ _ | exact hg1 | exact hb1 | exact hr1 | (rewrite [jk_row_ne _ _ (by omega)]; first | exact hg1 | exact hb1 | exact hr1 | rfl))))) (by first | decide | omega | exact jB_01 _) dX13_circles_121 rfl ?_
              refine jk_istore2 (q := 123) dX13_circles_122 rfl rfl rfl ?_
              refine jk_goto (q := 44) dX13_circles_123 rfl ?_
              first
              | contradiction
              | (refine jk_convw (ih44 hlt _ ?_) (jk_wkS rfl (jk_wkS rfl (jk_wkS (jk_li ?_) (jk_wkN jk_wk0))))
                 · rw [hs1, jk_row_row]
                   show _ = jk_row _ _ (jk_set _ _ (if _ then _ else _))
                   first | rw [if_pos (by assumption)] | rw [if_neg (by assumption)]
                 · show (if _ then _ else _) = _
                   first | rw [if_pos (by assumption)] | rw [if_neg (by assumption)])
            · refine jk_aload_n (q := 102) dX13_circles_101 rfl rfl ?_
              refine jk_getA (q := 105) (k := 13) 0 0 rfl (by first | exact hm.1 | exact hm.2.1 _ _ rfl | assumption) (by first | exact hm.2.2 _ _ rfl | assumption) rfl rfl jw_1848 dX13_circles_102 rfl ?_
              refine jk_bipush (q := 107) (y := 40) dX13_circles_105 rfl (by decide) ?_
              refine jk_iload_n (q := 108) dX13_circles_107 rfl rfl ?_
              refine jk_iadd (q := 109) dX13_circles_108 rfl ?_
              refine jk_ialdR (q := 110) (by first | exact hm.1 | exact hm.2.1 _ _ rfl | assumption) (by first | exact jk_row_same _ _ _ | exact hg1 | exact hb1 | exact hr1 | (rewrite [jk_row_ne _ _ (by omega)]; first | exact jk_row_same _ _ _ | exact hg1 | exact hb1 | exact hr1 | (rewrite [jk_row_ne _ _ (by omega)]; first | exact jk_row_same _ _ _ | exact hg1 | exact hb1 | exact hr1 | (rewrite [jk_row_ne _ _ (by omega)]; first | exact jk_row_same _ _ _ | exact hg1 | exact hb1 | exact hr1 | (rewrite [jk_row_ne _ _ (by omega)]; first | exact hg1 | exact hb1 | exact hr1 | rfl))))) (by first | decide | omega | exact jB_01 _) dX13_circles_109 rfl ?_
              refine jk_goto (q := 122) dX13_circles_110 rfl ?_
              refine jk_istore2 (q := 123) dX13_circles_122 rfl rfl rfl ?_
              refine jk_goto (q := 44) dX13_circles_123 rfl ?_
              first
              | contradiction
              | (refine jk_convw (ih44 hlt _ ?_) (jk_wkS rfl (jk_wkS rfl (jk_wkS (jk_li ?_) (jk_wkN jk_wk0))))
                 · rw [hs1, jk_row_row]
                   show _ = jk_row _ _ (jk_set _ _ (if _ then _ else _))
                   first | rw [if_pos (by assumption)] | rw [if_neg (by assumption)]
                 · show (if _ then _ else _) = _
                   first | rw [if_pos (by assumption)] | rw [if_neg (by assumption)])
      refine L44 0 (Nat.zero_le _) _ ?_
      rw [hs1, show k2 = 16 by omega, jk_fill_all (fun p hp => (hz p hp).2.1)]
      rw [jk_r3 _ _ _ _ (by omega) (by omega)]
      congr 1
      funext p
      show (if _ then (0 : Int) else 0) = 0
      split <;> rfl
    · refine jk_aload_n (q := 9) dX13_circles_8 rfl rfl ?_
      refine jk_getA (q := 12) (k := 13) 17 17 rfl (by first | exact hm.1 | exact hm.2.1 _ _ rfl | assumption) (by first | exact hm.2.2 _ _ rfl | assumption) rfl rfl jw_1865 dX13_circles_9 rfl ?_
      refine jk_iload_n (q := 13) dX13_circles_12 rfl rfl ?_
      refine jk_iconst (q := 14) dX13_circles_13 rfl ?_
      refine jk_iastR (q := 15) (by first | exact hm.1 | exact hm.2.1 _ _ rfl | assumption) (by first | exact jk_row_same _ _ _ | exact hr1 | exact hg1 | (rewrite [jk_row_ne _ _ (by omega)]; first | exact jk_row_same _ _ _ | exact hr1 | exact hg1 | (rewrite [jk_row_ne _ _ (by omega)]; first | exact jk_row_same _ _ _ | exact hr1 | exact hg1 | (rewrite [jk_row_ne _ _ (by omega)]; first | exact jk_row_same _ _ _ | exact hr1 | exact hg1 | (rewrite [jk_row_ne _ _ (by omega)]; first | exact hr1 | exact hg1 | rfl))))) (by first | decide | omega | exact jB_01 _) dX13_circles_14 rfl ?_
      refine jk_iinc2 (q := 18) dX13_circles_15 rfl rfl rfl ?_
      refine jk_goto (q := 2) dX13_circles_18 rfl ?_
      refine ih2 (by omega) _ ?_
      rw [hs1, jk_row_row, jk_fill_S _ _ _ _ rfl]
  exact L2 0 (Nat.zero_le _) σ (by rw [jk_fill_0, jk_row_self])
end MD7
