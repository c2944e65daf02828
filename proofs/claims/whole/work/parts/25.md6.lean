section MD6
theorem md_cor_bd {B : Int} {g : Int → Int} {l : Int} (hi : md_inv B g) (hl : 0 ≤ l ∧ l < 16) : -1109999 ≤ md_cor g l ∧ md_cor g l ≤ 1109999 := by
  have h1 := md_lev_bd (md_inv_ln hi hl)
  obtain ⟨l1, l2, l3, l4, l5, l6, l7, l8⟩ := md_inv_ln hi hl
  have hB := hi.2.2.2.2.2.2
  unfold md_cor; omega
theorem jk_sum_bd2 {f : Int → Int} {a b : Int} : ∀ k : Nat, (∀ i, 0 ≤ i → i < (k : Int) → a ≤ f i ∧ f i ≤ b) → a * (k : Int) ≤ jk_sum f k ∧ jk_sum f k ≤ b * (k : Int)
  | 0, _ => by simp [jk_sum]
  | k + 1, h => by
    have h1 := jk_sum_bd2 k (fun i h2 h3 => h i h2 (by omega))
    have h2 := h (k : Int) (by omega) (by omega)
    have e1 : a * ((k + 1 : Nat) : Int) = a * (k : Int) + a := by rw [Int.natCast_succ, Int.mul_add, Int.mul_one]
    have e2 : b * ((k + 1 : Nat) : Int) = b * (k : Int) + b := by rw [Int.natCast_succ, Int.mul_add, Int.mul_one]
    rw [e1, e2]
    show _ ≤ jk_sum f k + f (k : Int) ∧ jk_sum f k + f (k : Int) ≤ _
    omega
theorem md_err_bd {B : Int} {g S : Int → Int} (hi : md_inv B g) (hsb : ∀ l, 0 ≤ l ∧ l < 16 → -1 ≤ S l ∧ S l ≤ 1) : -17759984 ≤ md_err g S ∧ md_err g S ≤ 17759984 := by
  obtain ⟨i0, i1, -⟩ := id hi
  have h := jk_sum_bd2 (f := fun l => S l * md_cor g l) (a := -1109999) (b := 1109999) (g 1).toNat (fun i h1 h2 => by
    have hc := md_cor_bd hi (l := i) ⟨h1, by omega⟩
    have hs := hsb i ⟨h1, by omega⟩
    rcases (show S i = -1 ∨ S i = 0 ∨ S i = 1 by omega) with e | e | e <;> simp only [e] <;> omega)
  unfold md_err
  omega
theorem md_len_bd {B : Int} {g S : Int → Int} (hi : md_inv B g) : 0 ≤ md_len g S ∧ md_len g S ≤ 800 := by
  obtain ⟨i0, i1, -⟩ := id hi
  have h := jk_sum_bd2 (f := fun l => if S l = 0 then 0 else g (56 + l)) (a := 0) (b := 50) (g 1).toNat (fun i h1 h2 => by
    have hc := (md_inv_ln hi (l := i) ⟨h1, by omega⟩).2.2.1
    split <;> omega)
  unfold md_len
  omega
theorem md_rem_bd {g S : Int → Int} {l e len : Int} (hlen : 0 < len ∧ len ≤ 1000) : -1 ≤ md_rem g S l e len ∧ md_rem g S l e len < 1000 := by
  unfold md_rem
  split
  · omega
  · have h1 := Int.emod_nonneg (e * g (56 + l)) (show len ≠ 0 by omega)
    have h2 := Int.emod_lt_of_pos (e * g (56 + l)) hlen.1
    omega
/-- the part of a line, rounded down -/
def md_p0 (g S : Int → Int) (e len l : Int) : Int := if l < g 1 ∧ S l ≠ 0 then e * g (56 + l) / len else 0
def md_left (g S : Int → Int) (e len : Int) (k : Nat) : Int := e - jk_sum (md_p0 g S e len) k
def md_ahead (g S : Int → Int) (e len l : Int) (k : Nat) : Int := jk_sum (fun o => jB (decide (md_rem g S o e len > md_rem g S l e len ∨ (md_rem g S o e len = md_rem g S l e len ∧ o < l)))) k
def md_p1 (g S : Int → Int) (e len l : Int) : Int := md_p0 g S e len l + jB (decide (md_rem g S l e len ≠ -1 ∧ md_ahead g S e len l (g 1).toNat < md_left g S e len 16))
/-- the parts by line -/
def md_parts (g S : Int → Int) : Int → Int := fun l => if 0 ≤ l ∧ l < 16 then (if l < g 1 then md_p1 g S (md_abs (md_err g S)) (md_len g S) l else 0) else 0
theorem md_p0_sum {B : Int} {g S : Int → Int} {e len : Int} (hi : md_inv B g) (he : 0 ≤ e) (hlen : 0 < len) : ∀ k : Nat, k ≤ 16 → 0 ≤ jk_sum (md_p0 g S e len) k ∧ len * jk_sum (md_p0 g S e len) k ≤ e * jk_sum (fun l => if l < g 1 ∧ S l ≠ 0 then g (56 + l) else 0) k
  | 0, _ => by simp [jk_sum]
  | k + 1, hk => by
    have h1 := md_p0_sum hi he hlen (S := S) k (by omega)
    show 0 ≤ jk_sum (md_p0 g S e len) k + md_p0 g S e len (k : Int) ∧ len * (jk_sum (md_p0 g S e len) k + md_p0 g S e len (k : Int)) ≤ e * (jk_sum (fun l => if l < g 1 ∧ S l ≠ 0 then g (56 + l) else 0) k + (if (k : Int) < g 1 ∧ S (k : Int) ≠ 0 then g (56 + (k : Int)) else 0))
    have hg := (md_inv_ln hi (l := (k : Int)) ⟨by omega, by omega⟩).2.2.1
    rw [Int.mul_add, Int.mul_add]
    unfold md_p0
    split
    · have h2 : len * (e * g (56 + (k : Int)) / len) ≤ e * g (56 + (k : Int)) := Int.mul_ediv_self_le (by omega)
      have h3 : 0 ≤ e * g (56 + (k : Int)) / len := Int.ediv_nonneg (Int.mul_nonneg he hg.1) (by omega)
      unfold md_p0 at h1
      omega
    · unfold md_p0 at h1
      rw [Int.mul_zero, Int.mul_zero]
      omega
theorem jk_sum_cut {f : Int → Int} {c : Int} (hc : 0 ≤ c) : ∀ k : Nat, c ≤ (k : Int) → jk_sum (fun l => if l < c then f l else 0) k = jk_sum f c.toNat
  | 0, h => by rw [show c.toNat = 0 by omega]; rfl
  | k + 1, h => by
    show jk_sum (fun l => if l < c then f l else 0) k + (if (k : Int) < c then f (k : Int) else 0) = _
    by_cases hk : c ≤ (k : Int)
    · rw [jk_sum_cut hc k hk, if_neg (by omega), Int.add_zero]
    · rw [if_pos (by omega), show c.toNat = k + 1 by omega]
      show _ = jk_sum f k + f (k : Int)
      rw [jk_sum_cong k (fun i h1 h2 => if_pos (show i < c by omega))]
theorem md_left_bd {B : Int} {g S : Int → Int} {e : Int} (hi : md_inv B g) (he : 0 ≤ e) (hlen : 0 < md_len g S) : 0 ≤ md_left g S e (md_len g S) 16 ∧ md_left g S e (md_len g S) 16 ≤ e := by
  have h := md_p0_sum (S := S) hi he hlen 16 (by omega)
  have e1 : jk_sum (fun l => if l < g 1 ∧ S l ≠ 0 then g (56 + l) else 0) 16 = md_len g S := by
    unfold md_len
    rw [← jk_sum_cut (f := fun l => if S l = 0 then 0 else g (56 + l)) hi.2.1.1 16 (by have := hi.2.1; omega)]
    exact jk_sum_cong 16 (fun i h1 h2 => by
      by_cases h3 : i < g 1 <;> by_cases h4 : S i = 0 <;> simp [h3, h4])
  rw [e1, Int.mul_comm e] at h
  have h2 := Int.le_of_mul_le_mul_left h.2 hlen
  unfold md_left
  omega
theorem md_parts_fin {g S : Int → Int} {e len : Int} (h1 : 0 ≤ g 1 ∧ g 1 ≤ 16) : jk_fill (fun l => if 0 ≤ l ∧ l < 16 then md_p0 g S e len l else 0) (md_p1 g S e len) (g 1).toNat = fun l => if 0 ≤ l ∧ l < 16 then (if l < g 1 then md_p1 g S e len l else 0) else 0 := by
  funext l
  unfold jk_fill
  rw [show ((g 1).toNat : Int) = g 1 by omega]
  by_cases a : 0 ≤ l ∧ l < g 1
  · rw [if_pos a, if_pos ⟨a.1, by omega⟩, if_pos a.2]
  · rw [if_neg a]
    show (if 0 ≤ l ∧ l < 16 then md_p0 g S e len l else 0) = (if 0 ≤ l ∧ l < 16 then (if l < g 1 then md_p1 g S e len l else 0) else 0)
    by_cases b : 0 ≤ l ∧ l < 16
    · rw [if_pos b, if_pos b, if_neg (by omega)]
      unfold md_p0
      rw [if_neg (fun h => a ⟨b.1, h.1⟩)]
    · rw [if_neg b, if_neg b]
theorem c_X13_sharesOut {G : jk_G} {n : Nat} {t : jk_T} {σ : jk_I} {ρ : jk_P} {m : Nat} {g : Int → Int} {B : Int} {S : Int → Int} (hm : md_at t ρ m) (hg : σ (m + 2) = g) (hi : md_inv B g) (hs : σ (m + 22) = S) (hsb : ∀ l, 0 ≤ l ∧ l < 16 → -1 ≤ S l ∧ S l ≤ 1) (hz : md_z σ m) (hlen0 : 0 < md_len g S) : jk_K G yX13_sharesOut mX13_sharesOut 0 0 [.ref m] n t σ ρ (jk_q none n t (jk_row σ (m + 24) (md_parts g S)) ρ) jk_no := by
  refine jk_entryB (ls := [some (.ref m), none, none, none, none, none, none, none, none]) jm_X13_sharesOut.1 rfl rfl rfl ?_
  obtain ⟨i0, i1, -⟩ := id hi
  have heb := md_err_bd hi hsb
  have hlb := md_len_bd (S := S) hi
  have hab : 0 ≤ md_abs (md_err g S) ∧ md_abs (md_err g S) ≤ 17759984 := by unfold md_abs; split <;> omega
  have hlf := md_left_bd hi hab.1 hlen0
  generalize he : md_abs (md_err g S) = e at hab hlf
  generalize hl9 : md_len g S = len at hlb hlf hlen0
  refine jk_aload_n (q := 1) dX13_sharesOut_0 rfl rfl ?_
  refine jk_cV0p (q := 4) (c_X13_errorAround hm hg hi hs hsb) jm_X13_errorAround jw_2075 rfl (by first | exact hm.1 | exact hm.2.1 _ _ rfl | assumption) rfl rfl rfl dX13_sharesOut_1 rfl ?_
  refine jk_cS1p (q := 7) (c_X13_size (by omega)) jm_X13_size jw_2014 rfl rfl rfl dX13_sharesOut_4 rfl ?_
  rw [he]
  refine jk_istore1 (q := 8) dX13_sharesOut_7 rfl rfl rfl ?_
  refine jk_aload_n (q := 9) dX13_sharesOut_8 rfl rfl ?_
  refine jk_cV0p (q := 12) (c_X13_lengthAround hm hg hi hs hsb) jm_X13_lengthAround jw_2079 rfl (by first | exact hm.1 | exact hm.2.1 _ _ rfl | assumption) rfl rfl rfl dX13_sharesOut_9 rfl ?_
  rw [hl9]
  refine jk_istore2 (q := 13) dX13_sharesOut_12 rfl rfl rfl ?_
  refine jk_iload_n (q := 14) dX13_sharesOut_13 rfl rfl ?_
  refine jk_istore3 (q := 15) dX13_sharesOut_14 rfl rfl rfl ?_
  refine jk_iconst (q := 16) dX13_sharesOut_15 rfl ?_
  refine jk_istore4 (q := 18) dX13_sharesOut_16 rfl rfl rfl ?_
  have L18 : ∀ k18 : Nat, k18 ≤ 16 → ∀ (σ1 : jk_I), (hs1 : σ1 = jk_row σ (m + 24) (jk_fill (σ (m + 24)) (md_p0 g S e len) k18)) → jk_J G mX13_sharesOut 18 [some (.ref m), some (jI e), some (jI len), some (jI (md_left g S e len k18)), some (jI (k18 : Int)), none, none, none, none] [] n t σ1 ρ 0 0 (jk_q none n t (jk_row σ (m + 24) (md_parts g S)) ρ) jk_no := by
    refine jk_loop _ (fun k18 hk18 ih18 => ?_)
    intro σ1 hs1
    have hg1 : σ1 (m + 2) = g := by rw [hs1, jk_row_ne _ _ (by omega)]; exact hg
    have hss1 : σ1 (m + 22) = S := by rw [hs1, jk_row_ne _ _ (by omega)]; exact hs
    have hp1 : σ1 (m + 24) = jk_fill (σ (m + 24)) (md_p0 g S e len) k18 := by rw [hs1, jk_row_same]
    refine jk_iload (q := 20) dX13_sharesOut_18 rfl rfl ?_
    refine jk_bipush (q := 22) (y := 16) dX13_sharesOut_20 rfl (by decide) ?_
    refine jk_icmp_ge (q := 87) (q2 := 25) dX13_sharesOut_22 rfl rfl (by first | decide | omega | exact jB_01 _) (by first | decide | omega | exact jB_01 _) (fun h1 => ?_) (fun h1 => ?_)
    · refine jk_iconst (q := 88) dX13_sharesOut_87 rfl ?_
      refine jk_istore4 (q := 90) dX13_sharesOut_88 rfl rfl rfl ?_
      have L90 : ∀ k90 : Nat, k90 ≤ (g 1).toNat → ∀ (σ1 : jk_I), (hs1 : σ1 = jk_row σ (m + 24) (jk_fill (fun l => if 0 ≤ l ∧ l < 16 then md_p0 g S e len l else 0) (md_p1 g S e len) k90)) → jk_J G mX13_sharesOut 90 [some (.ref m), some (jI e), some (jI len), some (jI (md_left g S e len 16)), some (jI (k90 : Int)), none, none, none, none] [] n t σ1 ρ 0 0 (jk_q none n t (jk_row σ (m + 24) (md_parts g S)) ρ) jk_no := by
        refine jk_loop _ (fun k90 hk90 ih90 => ?_)
        intro σ1 hs1
        have hg1 : σ1 (m + 2) = g := by rw [hs1, jk_row_ne _ _ (by omega)]; exact hg
        have hss1 : σ1 (m + 22) = S := by rw [hs1, jk_row_ne _ _ (by omega)]; exact hs
        have hp1 : σ1 (m + 24) = jk_fill (fun l => if 0 ≤ l ∧ l < 16 then md_p0 g S e len l else 0) (md_p1 g S e len) k90 := by rw [hs1, jk_row_same]
        refine jk_iload (q := 92) dX13_sharesOut_90 rfl rfl ?_
        refine jk_aload_n (q := 93) dX13_sharesOut_92 rfl rfl ?_
        refine jk_getA (q := 96) (k := 13) 0 0 rfl (by first | exact hm.1 | exact hm.2.1 _ _ rfl | assumption) (by first | exact hm.2.2 _ _ rfl | assumption) rfl rfl jw_1848 dX13_sharesOut_93 rfl ?_
        refine jk_iconst (q := 97) dX13_sharesOut_96 rfl ?_
        refine jk_ialdR (q := 98) (by first | exact hm.1 | exact hm.2.1 _ _ rfl | assumption) (by first | exact jk_row_same _ _ _ | exact hg1 | exact hss1 | exact hp1 | (rewrite [jk_row_ne _ _ (by omega)]; first | exact jk_row_same _ _ _ | exact hg1 | exact hss1 | exact hp1 | (rewrite [jk_row_ne _ _ (by omega)]; first | exact jk_row_same _ _ _ | exact hg1 | exact hss1 | exact hp1 | (rewrite [jk_row_ne _ _ (by omega)]; first | exact jk_row_same _ _ _ | exact hg1 | exact hss1 | exact hp1 | (rewrite [jk_row_ne _ _ (by omega)]; first | exact hg1 | exact hss1 | exact hp1 | rfl))))) (by first | decide | omega | exact jB_01 _) dX13_sharesOut_97 rfl ?_
        refine jk_icmp_ge (q := 208) (q2 := 101) dX13_sharesOut_98 rfl rfl (by first | decide | omega | exact jB_01 _) (by first | decide | omega | exact jB_01 _) (fun h2 => ?_) (fun h2 => ?_)
        · exact jk_ret rfl dX13_sharesOut_208 (by refine ⟨rfl, rfl, rfl, ?_, rfl⟩; rw [hs1, show k90 = (g 1).toNat by omega, md_parts_fin i1]; subst he; subst hl9; rfl)
        · refine jk_aload_n (q := 102) dX13_sharesOut_101 rfl rfl ?_
          refine jk_iload (q := 104) dX13_sharesOut_102 rfl rfl ?_
          refine jk_iload_n (q := 105) dX13_sharesOut_104 rfl rfl ?_
          refine jk_iload_n (q := 106) dX13_sharesOut_105 rfl rfl ?_
          refine jk_cV3p (q := 109) (c_X13_remainder hm hg1 hi hss1 hsb ⟨by omega, by omega⟩ ⟨by omega, by omega⟩ ⟨by omega, by omega⟩) jm_X13_remainder jw_2087 rfl (by first | exact hm.1 | exact hm.2.1 _ _ rfl | assumption) rfl rfl rfl dX13_sharesOut_106 rfl ?_
          refine jk_istore5 (q := 111) dX13_sharesOut_109 rfl rfl rfl ?_
          refine jk_iconst (q := 112) dX13_sharesOut_111 rfl ?_
          refine jk_istore6 (q := 114) dX13_sharesOut_112 rfl rfl rfl ?_
          refine jk_iconst (q := 115) dX13_sharesOut_114 rfl ?_
          refine jk_istore7 (q := 117) dX13_sharesOut_115 rfl rfl rfl ?_
          have L117 : ∀ k117 : Nat, k117 ≤ (g 1).toNat → jk_J G mX13_sharesOut 117 [some (.ref m), some (jI e), some (jI len), some (jI (md_left g S e len 16)), some (jI (k90 : Int)), some (jI (md_rem g S (k90 : Int) e len)), some (jI (md_ahead g S e len (k90 : Int) k117)), some (jI (k117 : Int)), none] [] n t σ1 ρ 0 0 (jk_q none n t (jk_row σ (m + 24) (md_parts g S)) ρ) jk_no := by
            refine jk_loop _ (fun k117 hk117 ih117 => ?_)
            refine jk_iload (q := 119) dX13_sharesOut_117 rfl rfl ?_
            refine jk_aload_n (q := 120) dX13_sharesOut_119 rfl rfl ?_
            refine jk_getA (q := 123) (k := 13) 0 0 rfl (by first | exact hm.1 | exact hm.2.1 _ _ rfl | assumption) (by first | exact hm.2.2 _ _ rfl | assumption) rfl rfl jw_1848 dX13_sharesOut_120 rfl ?_
            refine jk_iconst (q := 124) dX13_sharesOut_123 rfl ?_
            refine jk_ialdR (q := 125) (by first | exact hm.1 | exact hm.2.1 _ _ rfl | assumption) (by first | exact jk_row_same _ _ _ | exact hg1 | exact hss1 | exact hp1 | (rewrite [jk_row_ne _ _ (by omega)]; first | exact jk_row_same _ _ _ | exact hg1 | exact hss1 | exact hp1 | (rewrite [jk_row_ne _ _ (by omega)]; first | exact jk_row_same _ _ _ | exact hg1 | exact hss1 | exact hp1 | (rewrite [jk_row_ne _ _ (by omega)]; first | exact jk_row_same _ _ _ | exact hg1 | exact hss1 | exact hp1 | (rewrite [jk_row_ne _ _ (by omega)]; first | exact hg1 | exact hss1 | exact hp1 | rfl))))) (by first | decide | omega | exact jB_01 _) dX13_sharesOut_124 rfl ?_
            refine jk_icmp_ge (q := 175) (q2 := 128) dX13_sharesOut_125 rfl rfl (by first | decide | omega | exact jB_01 _) (by first | decide | omega | exact jB_01 _) (fun h3 => ?_) (fun h3 => ?_)
            · refine jk_aload_n (q := 176) dX13_sharesOut_175 rfl rfl ?_
              refine jk_getA (q := 179) (k := 13) 18 18 rfl (by first | exact hm.1 | exact hm.2.1 _ _ rfl | assumption) (by first | exact hm.2.2 _ _ rfl | assumption) rfl rfl jw_1866 dX13_sharesOut_176 rfl ?_
              refine jk_iload (q := 181) dX13_sharesOut_179 rfl rfl ?_
              refine jk_dup2 (q := 182) dX13_sharesOut_181 rfl rfl rfl ?_
              refine jk_ialdR (q := 183) (by first | exact hm.1 | exact hm.2.1 _ _ rfl | assumption) (by first | exact jk_row_same _ _ _ | exact hg1 | exact hss1 | exact hp1 | (rewrite [jk_row_ne _ _ (by omega)]; first | exact jk_row_same _ _ _ | exact hg1 | exact hss1 | exact hp1 | (rewrite [jk_row_ne _ _ (by omega)]; first | exact jk_row_same _ _ _ | exact hg1 | exact hss1 | exact hp1 | (rewrite [jk_row_ne _ _ (by omega)]; first | exact jk_row_same _ _ _ | exact hg1 | exact hss1 | exact hp1 | (rewrite [jk_row_ne _ _ (by omega)]; first | exact hg1 | exact hss1 | exact hp1 | rfl))))) (by first | decide | omega | exact jB_01 _) dX13_sharesOut_182 rfl ?_
              have hr5 := md_rem_bd (g := g) (S := S) (l := (k90 : Int)) (e := e) (len := len) ⟨by omega, by omega⟩
              have hah : 0 ≤ md_ahead g S e len (k90 : Int) k117 ∧ md_ahead g S e len (k90 : Int) k117 ≤ 16 := by
                have := jk_sum_bd (f := fun o => jB (decide (md_rem g S o e len > md_rem g S (k90 : Int) e len ∨ (md_rem g S o e len = md_rem g S (k90 : Int) e len ∧ o < (k90 : Int))))) (a := 0) (b := 1) (fun i => by rcases jB_01 (decide (md_rem g S i e len > md_rem g S (k90 : Int) e len ∨ (md_rem g S i e len = md_rem g S (k90 : Int) e len ∧ i < (k90 : Int)))) with h | h <;> rw [h] <;> decide) k117
                unfold md_ahead; omega
              refine jk_iload (q := 185) dX13_sharesOut_183 rfl rfl ?_
              refine jk_iconst (q := 186) dX13_sharesOut_185 rfl ?_
              refine jk_icmp_eq (q := 199) (q2 := 189) dX13_sharesOut_186 rfl rfl (by first | decide | omega | exact jB_01 _) (by first | decide | omega | exact jB_01 _) (fun h4 => ?_) (fun h4 => ?_)
              · refine jk_iconst (q := 200) dX13_sharesOut_199 rfl ?_
                refine jk_iadd (q := 201) dX13_sharesOut_200 rfl ?_
                refine jk_iastR (q := 202) (by first | exact hm.1 | exact hm.2.1 _ _ rfl | assumption) (by first | exact jk_row_same _ _ _ | exact hg1 | exact hss1 | exact hp1 | (rewrite [jk_row_ne _ _ (by omega)]; first | exact jk_row_same _ _ _ | exact hg1 | exact hss1 | exact hp1 | (rewrite [jk_row_ne _ _ (by omega)]; first | exact jk_row_same _ _ _ | exact hg1 | exact hss1 | exact hp1 | (rewrite [jk_row_ne _ _ (by omega)]; first | exact jk_row_same _ _ _ | exact hg1 | exact hss1 | exact hp1 | (rewrite [jk_row_ne _ _ (by omega)]; first | exact hg1 | exact hss1 | exact hp1 | rfl))))) (by first | decide | omega | exact jB_01 _) dX13_sharesOut_201 rfl ?_
                refine jk_iinc4 (q := 205) dX13_sharesOut_202 rfl rfl rfl ?_
                refine jk_goto (q := 90) dX13_sharesOut_205 rfl ?_
                refine jk_convw (ih90 (by omega) _ ?_) (jk_wkS rfl (jk_wkS rfl (jk_wkS rfl (jk_wkS rfl (jk_wkS rfl (jk_wkN (jk_wkN (jk_wkN (jk_wkN jk_wk0)))))))))
                rw [hs1, jk_row_row, jk_fill_S _ _ _ _ ?_]
                unfold jk_fill
                rw [if_neg (by omega)]
                show (if 0 ≤ (k90 : Int) ∧ (k90 : Int) < 16 then md_p0 g S e len (k90 : Int) else 0) + _ = _
                rw [if_pos ⟨by omega, by omega⟩]
                unfold md_p1
                rw [show (g 1).toNat = k117 by omega]
                first | (rw [decide_eq_true ⟨by first | assumption | omega, by omega⟩]; rfl) | (rw [decide_eq_false (by intro hc; first | exact hc.1 (by assumption) | omega)]; rfl)
              · refine jk_iload (q := 191) dX13_sharesOut_189 rfl rfl ?_
                refine jk_iload_n (q := 192) dX13_sharesOut_191 rfl rfl ?_
                refine jk_icmp_ge (q := 199) (q2 := 195) dX13_sharesOut_192 rfl rfl (by first | decide | omega | exact jB_01 _) (by first | decide | omega | exact jB_01 _) (fun h5 => ?_) (fun h5 => ?_)
                · refine jk_iconst (q := 200) dX13_sharesOut_199 rfl ?_
                  refine jk_iadd (q := 201) dX13_sharesOut_200 rfl ?_
                  refine jk_iastR (q := 202) (by first | exact hm.1 | exact hm.2.1 _ _ rfl | assumption) (by first | exact jk_row_same _ _ _ | exact hg1 | exact hss1 | exact hp1 | (rewrite [jk_row_ne _ _ (by omega)]; first | exact jk_row_same _ _ _ | exact hg1 | exact hss1 | exact hp1 | (rewrite [jk_row_ne _ _ (by omega)]; first | exact jk_row_same _ _ _ | exact hg1 | exact hss1 | exact hp1 | (rewrite [jk_row_ne _ _ (by omega)]; first | exact jk_row_same _ _ _ | exact hg1 | exact hss1 | exact hp1 | (rewrite [jk_row_ne _ _ (by omega)]; first | exact hg1 | exact hss1 | exact hp1 | rfl))))) (by first | decide | omega | exact jB_01 _) dX13_sharesOut_201 rfl ?_
                  refine jk_iinc4 (q := 205) dX13_sharesOut_202 rfl rfl rfl ?_
                  refine jk_goto (q := 90) dX13_sharesOut_205 rfl ?_
                  refine jk_convw (ih90 (by omega) _ ?_) (jk_wkS rfl (jk_wkS rfl (jk_wkS rfl (jk_wkS rfl (jk_wkS rfl (jk_wkN (jk_wkN (jk_wkN (jk_wkN jk_wk0)))))))))
                  rw [hs1, jk_row_row, jk_fill_S _ _ _ _ ?_]
                  unfold jk_fill
                  rw [if_neg (by omega)]
                  show (if 0 ≤ (k90 : Int) ∧ (k90 : Int) < 16 then md_p0 g S e len (k90 : Int) else 0) + _ = _
                  rw [if_pos ⟨by omega, by omega⟩]
                  unfold md_p1
                  rw [show (g 1).toNat = k117 by omega]
                  first | (rw [decide_eq_true ⟨by first | assumption | omega, by omega⟩]; rfl) | (rw [decide_eq_false (by intro hc; first | exact hc.1 (by assumption) | omega)]; rfl)
                · refine jk_iconst (q := 196) dX13_sharesOut_195 rfl ?_
                  refine jk_goto (q := 200) dX13_sharesOut_196 rfl ?_
                  refine jk_iadd (q := 201) dX13_sharesOut_200 rfl ?_
                  refine jk_iastR (q := 202) (by first | exact hm.1 | exact hm.2.1 _ _ rfl | assumption) (by first | exact jk_row_same _ _ _ | exact hg1 | exact hss1 | exact hp1 | (rewrite [jk_row_ne _ _ (by omega)]; first | exact jk_row_same _ _ _ | exact hg1 | exact hss1 | exact hp1 | (rewrite [jk_row_ne _ _ (by omega)]; first | exact jk_row_same _ _ _ | exact hg1 | exact hss1 | exact hp1 | (rewrite [jk_row_ne _ _ (by omega)]; first | exact jk_row_same _ _ _ | exact hg1 | exact hss1 | exact hp1 | (rewrite [jk_row_ne _ _ (by omega)]; first | exact hg1 | exact hss1 | exact hp1 | rfl))))) (by first | decide | omega | exact jB_01 _) dX13_sharesOut_201 rfl ?_
                  refine jk_iinc4 (q := 205) dX13_sharesOut_202 rfl rfl rfl ?_
                  refine jk_goto (q := 90) dX13_sharesOut_205 rfl ?_
                  refine jk_convw (ih90 (by omega) _ ?_) (jk_wkS rfl (jk_wkS rfl (jk_wkS rfl (jk_wkS rfl (jk_wkS rfl (jk_wkN (jk_wkN (jk_wkN (jk_wkN jk_wk0)))))))))
                  rw [hs1, jk_row_row, jk_fill_S _ _ _ _ ?_]
                  unfold jk_fill
                  rw [if_neg (by omega)]
                  show (if 0 ≤ (k90 : Int) ∧ (k90 : Int) < 16 then md_p0 g S e len (k90 : Int) else 0) + _ = _
                  rw [if_pos ⟨by omega, by omega⟩]
                  unfold md_p1
                  rw [show (g 1).toNat = k117 by omega]
                  first | (rw [decide_eq_true ⟨by first | assumption | omega, by omega⟩]; rfl) | (rw [decide_eq_false (by intro hc; first | exact hc.1 (by assumption) | omega)]; rfl)
            · refine jk_aload_n (q := 129) dX13_sharesOut_128 rfl rfl ?_
              refine jk_iload (q := 131) dX13_sharesOut_129 rfl rfl ?_
              refine jk_iload_n (q := 132) dX13_sharesOut_131 rfl rfl ?_
              refine jk_iload_n (q := 133) dX13_sharesOut_132 rfl rfl ?_
              refine jk_cV3p (q := 136) (c_X13_remainder hm hg1 hi hss1 hsb ⟨by omega, by omega⟩ ⟨by omega, by omega⟩ ⟨by omega, by omega⟩) jm_X13_remainder jw_2087 rfl (by first | exact hm.1 | exact hm.2.1 _ _ rfl | assumption) rfl rfl rfl dX13_sharesOut_133 rfl ?_
              refine jk_istore8 (q := 138) dX13_sharesOut_136 rfl rfl rfl ?_
              have hr8 := md_rem_bd (g := g) (S := S) (l := (k117 : Int)) (e := e) (len := len) ⟨by omega, by omega⟩
              have hr5 := md_rem_bd (g := g) (S := S) (l := (k90 : Int)) (e := e) (len := len) ⟨by omega, by omega⟩
              refine jk_iload (q := 140) dX13_sharesOut_138 rfl rfl ?_
              refine jk_iload (q := 142) dX13_sharesOut_140 rfl rfl ?_
              refine jk_iload (q := 144) dX13_sharesOut_142 rfl rfl ?_
              refine jk_icmp_gt (q := 161) (q2 := 147) dX13_sharesOut_144 rfl rfl (by first | decide | omega | exact jB_01 _) (by first | decide | omega | exact jB_01 _) (fun h6 => ?_) (fun h6 => ?_)
              · refine jk_iconst (q := 162) dX13_sharesOut_161 rfl ?_
                refine jk_goto (q := 166) dX13_sharesOut_162 rfl ?_
                refine jk_iadd (q := 167) dX13_sharesOut_166 rfl ?_
                refine jk_istore6 (q := 169) dX13_sharesOut_167 rfl rfl rfl ?_
                refine jk_iinc7 (q := 172) dX13_sharesOut_169 rfl rfl rfl ?_
                refine jk_goto (q := 117) dX13_sharesOut_172 rfl ?_
                refine jk_convw (ih117 (by omega)) (jk_wkS rfl (jk_wkS rfl (jk_wkS rfl (jk_wkS rfl (jk_wkS rfl (jk_wkS rfl (jk_wkS (jk_li ?_) (jk_wkS rfl (jk_wkN jk_wk0)))))))))
                unfold md_ahead
                simp only [jk_sum]
                first | (rw [decide_eq_true (by first | exact Or.inl (by omega) | exact Or.inr ⟨by omega, by omega⟩)]; rfl) | (rw [decide_eq_false (by intro hc; rcases hc with hc | hc <;> omega)]; rfl)
              · refine jk_iload (q := 149) dX13_sharesOut_147 rfl rfl ?_
                refine jk_iload (q := 151) dX13_sharesOut_149 rfl rfl ?_
                refine jk_icmp_ne (q := 165) (q2 := 154) dX13_sharesOut_151 rfl rfl (by first | decide | omega | exact jB_01 _) (by first | decide | omega | exact jB_01 _) (fun h7 => ?_) (fun h7 => ?_)
                · refine jk_iconst (q := 166) dX13_sharesOut_165 rfl ?_
                  refine jk_iadd (q := 167) dX13_sharesOut_166 rfl ?_
                  refine jk_istore6 (q := 169) dX13_sharesOut_167 rfl rfl rfl ?_
                  refine jk_iinc7 (q := 172) dX13_sharesOut_169 rfl rfl rfl ?_
                  refine jk_goto (q := 117) dX13_sharesOut_172 rfl ?_
                  refine jk_convw (ih117 (by omega)) (jk_wkS rfl (jk_wkS rfl (jk_wkS rfl (jk_wkS rfl (jk_wkS rfl (jk_wkS rfl (jk_wkS (jk_li ?_) (jk_wkS rfl (jk_wkN jk_wk0)))))))))
                  unfold md_ahead
                  simp only [jk_sum]
                  first | (rw [decide_eq_true (by first | exact Or.inl (by omega) | exact Or.inr ⟨by omega, by omega⟩)]; rfl) | (rw [decide_eq_false (by intro hc; rcases hc with hc | hc <;> omega)]; rfl)
                · refine jk_iload (q := 156) dX13_sharesOut_154 rfl rfl ?_
                  refine jk_iload (q := 158) dX13_sharesOut_156 rfl rfl ?_
                  refine jk_icmp_ge (q := 165) (q2 := 161) dX13_sharesOut_158 rfl rfl (by first | decide | omega | exact jB_01 _) (by first | decide | omega | exact jB_01 _) (fun h8 => ?_) (fun h8 => ?_)
                  · refine jk_iconst (q := 166) dX13_sharesOut_165 rfl ?_
                    refine jk_iadd (q := 167) dX13_sharesOut_166 rfl ?_
                    refine jk_istore6 (q := 169) dX13_sharesOut_167 rfl rfl rfl ?_
                    refine jk_iinc7 (q := 172) dX13_sharesOut_169 rfl rfl rfl ?_
                    refine jk_goto (q := 117) dX13_sharesOut_172 rfl ?_
                    refine jk_convw (ih117 (by omega)) (jk_wkS rfl (jk_wkS rfl (jk_wkS rfl (jk_wkS rfl (jk_wkS rfl (jk_wkS rfl (jk_wkS (jk_li ?_) (jk_wkS rfl (jk_wkN jk_wk0)))))))))
                    unfold md_ahead
                    simp only [jk_sum]
                    first | (rw [decide_eq_true (by first | exact Or.inl (by omega) | exact Or.inr ⟨by omega, by omega⟩)]; rfl) | (rw [decide_eq_false (by intro hc; rcases hc with hc | hc <;> omega)]; rfl)
                  · refine jk_iconst (q := 162) dX13_sharesOut_161 rfl ?_
                    refine jk_goto (q := 166) dX13_sharesOut_162 rfl ?_
                    refine jk_iadd (q := 167) dX13_sharesOut_166 rfl ?_
                    refine jk_istore6 (q := 169) dX13_sharesOut_167 rfl rfl rfl ?_
                    refine jk_iinc7 (q := 172) dX13_sharesOut_169 rfl rfl rfl ?_
                    refine jk_goto (q := 117) dX13_sharesOut_172 rfl ?_
                    refine jk_convw (ih117 (by omega)) (jk_wkS rfl (jk_wkS rfl (jk_wkS rfl (jk_wkS rfl (jk_wkS rfl (jk_wkS rfl (jk_wkS (jk_li ?_) (jk_wkS rfl (jk_wkN jk_wk0)))))))))
                    unfold md_ahead
                    simp only [jk_sum]
                    first | (rw [decide_eq_true (by first | exact Or.inl (by omega) | exact Or.inr ⟨by omega, by omega⟩)]; rfl) | (rw [decide_eq_false (by intro hc; rcases hc with hc | hc <;> omega)]; rfl)
          exact L117 0 (Nat.zero_le _)
      refine jk_convw (L90 0 (Nat.zero_le _) σ1 ?_) (jk_wkS rfl (jk_wkS rfl (jk_wkS rfl (jk_wkS (jk_li ?_) (jk_wkS rfl (jk_wkN (jk_wkN (jk_wkN (jk_wkN jk_wk0)))))))))
      · rw [hs1, jk_fill_0, show k18 = 16 by omega, jk_fill_all (fun p hp => (hz p hp).2.2)]; rfl
      · rw [show k18 = 16 by omega]
    · refine jk_aload_n (q := 26) dX13_sharesOut_25 rfl rfl ?_
      refine jk_getA (q := 29) (k := 13) 18 18 rfl (by first | exact hm.1 | exact hm.2.1 _ _ rfl | assumption) (by first | exact hm.2.2 _ _ rfl | assumption) rfl rfl jw_1866 dX13_sharesOut_26 rfl ?_
      refine jk_iload (q := 31) dX13_sharesOut_29 rfl rfl ?_
      refine jk_iload (q := 33) dX13_sharesOut_31 rfl rfl ?_
      refine jk_aload_n (q := 34) dX13_sharesOut_33 rfl rfl ?_
      refine jk_getA (q := 37) (k := 13) 0 0 rfl (by first | exact hm.1 | exact hm.2.1 _ _ rfl | assumption) (by first | exact hm.2.2 _ _ rfl | assumption) rfl rfl jw_1848 dX13_sharesOut_34 rfl ?_
      refine jk_iconst (q := 38) dX13_sharesOut_37 rfl ?_
      refine jk_ialdR (q := 39) (by first | exact hm.1 | exact hm.2.1 _ _ rfl | assumption) (by first | exact jk_row_same _ _ _ | exact hg1 | exact hss1 | exact hp1 | (rewrite [jk_row_ne _ _ (by omega)]; first | exact jk_row_same _ _ _ | exact hg1 | exact hss1 | exact hp1 | (rewrite [jk_row_ne _ _ (by omega)]; first | exact jk_row_same _ _ _ | exact hg1 | exact hss1 | exact hp1 | (rewrite [jk_row_ne _ _ (by omega)]; first | exact jk_row_same _ _ _ | exact hg1 | exact hss1 | exact hp1 | (rewrite [jk_row_ne _ _ (by omega)]; first | exact hg1 | exact hss1 | exact hp1 | rfl))))) (by first | decide | omega | exact jB_01 _) dX13_sharesOut_38 rfl ?_
      refine jk_icmp_ge (q := 69) (q2 := 42) dX13_sharesOut_39 rfl rfl (by first | decide | omega | exact jB_01 _) (by first | decide | omega | exact jB_01 _) (fun h9 => ?_) (fun h9 => ?_)
      · refine jk_iconst (q := 70) dX13_sharesOut_69 rfl ?_
        refine jk_iastR (q := 71) (by first | exact hm.1 | exact hm.2.1 _ _ rfl | assumption) (by first | exact jk_row_same _ _ _ | exact hg1 | exact hss1 | exact hp1 | (rewrite [jk_row_ne _ _ (by omega)]; first | exact jk_row_same _ _ _ | exact hg1 | exact hss1 | exact hp1 | (rewrite [jk_row_ne _ _ (by omega)]; first | exact jk_row_same _ _ _ | exact hg1 | exact hss1 | exact hp1 | (rewrite [jk_row_ne _ _ (by omega)]; first | exact jk_row_same _ _ _ | exact hg1 | exact hss1 | exact hp1 | (rewrite [jk_row_ne _ _ (by omega)]; first | exact hg1 | exact hss1 | exact hp1 | rfl))))) (by first | decide | omega | exact jB_01 _) dX13_sharesOut_70 rfl ?_
        refine jk_iload_n (q := 72) dX13_sharesOut_71 rfl rfl ?_
        refine jk_aload_n (q := 73) dX13_sharesOut_72 rfl rfl ?_
        refine jk_getA (q := 76) (k := 13) 18 18 rfl (by first | exact hm.1 | exact hm.2.1 _ _ rfl | assumption) (by first | exact hm.2.2 _ _ rfl | assumption) rfl rfl jw_1866 dX13_sharesOut_73 rfl ?_
        refine jk_iload (q := 78) dX13_sharesOut_76 rfl rfl ?_
        refine jk_ialdR (q := 79) (by first | exact hm.1 | exact hm.2.1 _ _ rfl | assumption) (by first | exact jk_row_same _ _ _ | exact hg1 | exact hss1 | exact hp1 | (rewrite [jk_row_ne _ _ (by omega)]; first | exact jk_row_same _ _ _ | exact hg1 | exact hss1 | exact hp1 | (rewrite [jk_row_ne _ _ (by omega)]; first | exact jk_row_same _ _ _ | exact hg1 | exact hss1 | exact hp1 | (rewrite [jk_row_ne _ _ (by omega)]; first | exact jk_row_same _ _ _ | exact hg1 | exact hss1 | exact hp1 | (rewrite [jk_row_ne _ _ (by omega)]; first | exact hg1 | exact hss1 | exact hp1 | rfl))))) (by first | decide | omega | exact jB_01 _) dX13_sharesOut_78 rfl ?_
        refine jk_isub (q := 80) dX13_sharesOut_79 rfl ?_
        refine jk_istore3 (q := 81) dX13_sharesOut_80 rfl rfl rfl ?_
        refine jk_iinc4 (q := 84) dX13_sharesOut_81 rfl rfl rfl ?_
        refine jk_goto (q := 18) dX13_sharesOut_84 rfl ?_
        refine jk_convl (ih18 (by omega) _ ?_) (jk_loc rfl (jk_loc rfl (jk_loc rfl (jk_loc (jk_li ?_) rfl))))
        · rw [hs1, jk_row_row, jk_fill_S _ _ _ _ (by unfold md_p0; first | rw [if_pos ⟨by omega, by first | assumption | omega⟩] | rw [if_neg (by intro hc; first | omega | exact hc.2 (by assumption))])]
        · unfold md_left; simp only [jk_sum, jk_set, if_true]; unfold md_p0; first | (rw [if_pos (c := (k18 : Int) < g 1 ∧ S (k18 : Int) ≠ 0) ⟨by omega, by first | assumption | omega⟩]; omega) | (rw [if_neg (c := (k18 : Int) < g 1 ∧ S (k18 : Int) ≠ 0) (by intro hc; first | omega | exact hc.2 (by assumption))]; omega)
      · have hsk := hsb (k18 : Int) ⟨by omega, by omega⟩
        refine jk_aload_n (q := 43) dX13_sharesOut_42 rfl rfl ?_
        refine jk_getA (q := 46) (k := 13) 17 17 rfl (by first | exact hm.1 | exact hm.2.1 _ _ rfl | assumption) (by first | exact hm.2.2 _ _ rfl | assumption) rfl rfl jw_1865 dX13_sharesOut_43 rfl ?_
        refine jk_iload (q := 48) dX13_sharesOut_46 rfl rfl ?_
        refine jk_ialdR (q := 49) (by first | exact hm.1 | exact hm.2.1 _ _ rfl | assumption) (by first | exact jk_row_same _ _ _ | exact hg1 | exact hss1 | exact hp1 | (rewrite [jk_row_ne _ _ (by omega)]; first | exact jk_row_same _ _ _ | exact hg1 | exact hss1 | exact hp1 | (rewrite [jk_row_ne _ _ (by omega)]; first | exact jk_row_same _ _ _ | exact hg1 | exact hss1 | exact hp1 | (rewrite [jk_row_ne _ _ (by omega)]; first | exact jk_row_same _ _ _ | exact hg1 | exact hss1 | exact hp1 | (rewrite [jk_row_ne _ _ (by omega)]; first | exact hg1 | exact hss1 | exact hp1 | rfl))))) (by first | decide | omega | exact jB_01 _) dX13_sharesOut_48 rfl ?_
        refine jk_if_eq (q := 69) (q2 := 52) dX13_sharesOut_49 rfl rfl (by first | decide | omega | exact jB_01 _) (fun h10 => ?_) (fun h10 => ?_)
        · refine jk_iconst (q := 70) dX13_sharesOut_69 rfl ?_
          refine jk_iastR (q := 71) (by first | exact hm.1 | exact hm.2.1 _ _ rfl | assumption) (by first | exact jk_row_same _ _ _ | exact hg1 | exact hss1 | exact hp1 | (rewrite [jk_row_ne _ _ (by omega)]; first | exact jk_row_same _ _ _ | exact hg1 | exact hss1 | exact hp1 | (rewrite [jk_row_ne _ _ (by omega)]; first | exact jk_row_same _ _ _ | exact hg1 | exact hss1 | exact hp1 | (rewrite [jk_row_ne _ _ (by omega)]; first | exact jk_row_same _ _ _ | exact hg1 | exact hss1 | exact hp1 | (rewrite [jk_row_ne _ _ (by omega)]; first | exact hg1 | exact hss1 | exact hp1 | rfl))))) (by first | decide | omega | exact jB_01 _) dX13_sharesOut_70 rfl ?_
          refine jk_iload_n (q := 72) dX13_sharesOut_71 rfl rfl ?_
          refine jk_aload_n (q := 73) dX13_sharesOut_72 rfl rfl ?_
          refine jk_getA (q := 76) (k := 13) 18 18 rfl (by first | exact hm.1 | exact hm.2.1 _ _ rfl | assumption) (by first | exact hm.2.2 _ _ rfl | assumption) rfl rfl jw_1866 dX13_sharesOut_73 rfl ?_
          refine jk_iload (q := 78) dX13_sharesOut_76 rfl rfl ?_
          refine jk_ialdR (q := 79) (by first | exact hm.1 | exact hm.2.1 _ _ rfl | assumption) (by first | exact jk_row_same _ _ _ | exact hg1 | exact hss1 | exact hp1 | (rewrite [jk_row_ne _ _ (by omega)]; first | exact jk_row_same _ _ _ | exact hg1 | exact hss1 | exact hp1 | (rewrite [jk_row_ne _ _ (by omega)]; first | exact jk_row_same _ _ _ | exact hg1 | exact hss1 | exact hp1 | (rewrite [jk_row_ne _ _ (by omega)]; first | exact jk_row_same _ _ _ | exact hg1 | exact hss1 | exact hp1 | (rewrite [jk_row_ne _ _ (by omega)]; first | exact hg1 | exact hss1 | exact hp1 | rfl))))) (by first | decide | omega | exact jB_01 _) dX13_sharesOut_78 rfl ?_
          refine jk_isub (q := 80) dX13_sharesOut_79 rfl ?_
          refine jk_istore3 (q := 81) dX13_sharesOut_80 rfl rfl rfl ?_
          refine jk_iinc4 (q := 84) dX13_sharesOut_81 rfl rfl rfl ?_
          refine jk_goto (q := 18) dX13_sharesOut_84 rfl ?_
          refine jk_convl (ih18 (by omega) _ ?_) (jk_loc rfl (jk_loc rfl (jk_loc rfl (jk_loc (jk_li ?_) rfl))))
          · rw [hs1, jk_row_row, jk_fill_S _ _ _ _ (by unfold md_p0; first | rw [if_pos ⟨by omega, by first | assumption | omega⟩] | rw [if_neg (by intro hc; first | omega | exact hc.2 (by assumption))])]
          · unfold md_left; simp only [jk_sum, jk_set, if_true]; unfold md_p0; first | (rw [if_pos (c := (k18 : Int) < g 1 ∧ S (k18 : Int) ≠ 0) ⟨by omega, by first | assumption | omega⟩]; omega) | (rw [if_neg (c := (k18 : Int) < g 1 ∧ S (k18 : Int) ≠ 0) (by intro hc; first | omega | exact hc.2 (by assumption))]; omega)
        · refine jk_iload_n (q := 53) dX13_sharesOut_52 rfl rfl ?_
          refine jk_aload_n (q := 54) dX13_sharesOut_53 rfl rfl ?_
          refine jk_getA (q := 57) (k := 13) 0 0 rfl (by first | exact hm.1 | exact hm.2.1 _ _ rfl | assumption) (by first | exact hm.2.2 _ _ rfl | assumption) rfl rfl jw_1848 dX13_sharesOut_54 rfl ?_
          refine jk_bipush (q := 59) (y := 56) dX13_sharesOut_57 rfl (by decide) ?_
          obtain ⟨e1, e2, e3, -⟩ := md_inv_ln hi (l := (k18 : Int)) ⟨by omega, by omega⟩
          have hpb : e * g (56 + (k18 : Int)) ≤ 17759984 * 50 := Int.mul_le_mul (by omega) (by omega) (by omega) (by omega)
          have hp0 : 0 ≤ e * g (56 + (k18 : Int)) := Int.mul_nonneg (by omega) (by omega)
          refine jk_iload (q := 61) dX13_sharesOut_59 rfl rfl ?_
          refine jk_iadd (q := 62) dX13_sharesOut_61 rfl ?_
          refine jk_ialdR (q := 63) (by first | exact hm.1 | exact hm.2.1 _ _ rfl | assumption) (by first | exact jk_row_same _ _ _ | exact hg1 | exact hss1 | exact hp1 | (rewrite [jk_row_ne _ _ (by omega)]; first | exact jk_row_same _ _ _ | exact hg1 | exact hss1 | exact hp1 | (rewrite [jk_row_ne _ _ (by omega)]; first | exact jk_row_same _ _ _ | exact hg1 | exact hss1 | exact hp1 | (rewrite [jk_row_ne _ _ (by omega)]; first | exact jk_row_same _ _ _ | exact hg1 | exact hss1 | exact hp1 | (rewrite [jk_row_ne _ _ (by omega)]; first | exact hg1 | exact hss1 | exact hp1 | rfl))))) (by first | decide | omega | exact jB_01 _) dX13_sharesOut_62 rfl ?_
          refine jk_imul (q := 64) dX13_sharesOut_63 rfl ?_
          refine jk_iload_n (q := 65) dX13_sharesOut_64 rfl rfl ?_
          refine jk_idivP (q := 66) dX13_sharesOut_65 rfl (by first | decide | omega | exact jB_01 _) ?_
          refine jk_goto (q := 70) dX13_sharesOut_66 rfl ?_
          refine jk_iastR (q := 71) (by first | exact hm.1 | exact hm.2.1 _ _ rfl | assumption) (by first | exact jk_row_same _ _ _ | exact hg1 | exact hss1 | exact hp1 | (rewrite [jk_row_ne _ _ (by omega)]; first | exact jk_row_same _ _ _ | exact hg1 | exact hss1 | exact hp1 | (rewrite [jk_row_ne _ _ (by omega)]; first | exact jk_row_same _ _ _ | exact hg1 | exact hss1 | exact hp1 | (rewrite [jk_row_ne _ _ (by omega)]; first | exact jk_row_same _ _ _ | exact hg1 | exact hss1 | exact hp1 | (rewrite [jk_row_ne _ _ (by omega)]; first | exact hg1 | exact hss1 | exact hp1 | rfl))))) (by first | decide | omega | exact jB_01 _) dX13_sharesOut_70 rfl ?_
          refine jk_iload_n (q := 72) dX13_sharesOut_71 rfl rfl ?_
          refine jk_aload_n (q := 73) dX13_sharesOut_72 rfl rfl ?_
          refine jk_getA (q := 76) (k := 13) 18 18 rfl (by first | exact hm.1 | exact hm.2.1 _ _ rfl | assumption) (by first | exact hm.2.2 _ _ rfl | assumption) rfl rfl jw_1866 dX13_sharesOut_73 rfl ?_
          refine jk_iload (q := 78) dX13_sharesOut_76 rfl rfl ?_
          refine jk_ialdR (q := 79) (by first | exact hm.1 | exact hm.2.1 _ _ rfl | assumption) (by first | exact jk_row_same _ _ _ | exact hg1 | exact hss1 | exact hp1 | (rewrite [jk_row_ne _ _ (by omega)]; first | exact jk_row_same _ _ _ | exact hg1 | exact hss1 | exact hp1 | (rewrite [jk_row_ne _ _ (by omega)]; first | exact jk_row_same _ _ _ | exact hg1 | exact hss1 | exact hp1 | (rewrite [jk_row_ne _ _ (by omega)]; first | exact jk_row_same _ _ _ | exact hg1 | exact hss1 | exact hp1 | (rewrite [jk_row_ne _ _ (by omega)]; first | exact hg1 | exact hss1 | exact hp1 | rfl))))) (by first | decide | omega | exact jB_01 _) dX13_sharesOut_78 rfl ?_
          refine jk_isub (q := 80) dX13_sharesOut_79 rfl ?_
          refine jk_istore3 (q := 81) dX13_sharesOut_80 rfl rfl rfl ?_
          refine jk_iinc4 (q := 84) dX13_sharesOut_81 rfl rfl rfl ?_
          refine jk_goto (q := 18) dX13_sharesOut_84 rfl ?_
          refine jk_convl (ih18 (by omega) _ ?_) (jk_loc rfl (jk_loc rfl (jk_loc rfl (jk_loc (jk_li ?_) rfl))))
          · rw [hs1, jk_row_row, jk_fill_S _ _ _ _ (by unfold md_p0; first | rw [if_pos ⟨by omega, by first | assumption | omega⟩] | rw [if_neg (by intro hc; first | omega | exact hc.2 (by assumption))])]
          · unfold md_left; simp only [jk_sum, jk_set, if_true]; unfold md_p0; first | (rw [if_pos (c := (k18 : Int) < g 1 ∧ S (k18 : Int) ≠ 0) ⟨by omega, by first | assumption | omega⟩]; omega) | (rw [if_neg (c := (k18 : Int) < g 1 ∧ S (k18 : Int) ≠ 0) (by intro hc; first | omega | exact hc.2 (by assumption))]; omega)
  refine jk_convl (L18 0 (Nat.zero_le _) σ (by rw [jk_fill_0, jk_row_self])) (jk_loc rfl (jk_loc rfl (jk_loc rfl (jk_loc (jk_li ?_) rfl))))
  unfold md_left jk_sum; omega
end MD6
