section CS2
/-- the remainders by line -/
def cs_r (g S : Int → Int) (e len l : Int) : Int := if l < g 1 ∧ S l ≠ 0 then e * g (56 + l) % len else -1
def cs_w (g S : Int → Int) (l : Int) : Int := if l < g 1 ∧ S l ≠ 0 then g (56 + l) else 0
theorem cs_r_sum {g S : Int → Int} {e len : Int} (hlen : 0 < len) : ∀ k : Nat, e * jk_sum (cs_w g S) k ≤ len * jk_sum (md_p0 g S e len) k + len * jk_sum (fun l => jB (decide (0 ≤ cs_r g S e len l))) k
  | 0 => by show e * 0 ≤ len * 0 + len * 0; omega
  | k + 1 => by
    have ih := cs_r_sum hlen (g := g) (S := S) (e := e) k
    show e * (jk_sum (cs_w g S) k + cs_w g S (k : Int)) ≤ len * (jk_sum (md_p0 g S e len) k + md_p0 g S e len (k : Int)) + len * (jk_sum (fun l => jB (decide (0 ≤ cs_r g S e len l))) k + jB (decide (0 ≤ cs_r g S e len (k : Int))))
    rw [Int.mul_add, Int.mul_add, Int.mul_add]
    have h1 : e * cs_w g S (k : Int) ≤ len * md_p0 g S e len (k : Int) + len * jB (decide (0 ≤ cs_r g S e len (k : Int))) := by
      unfold cs_w md_p0 cs_r
      split
      · have a1 := Int.emod_nonneg (e * g (56 + (k : Int))) (show len ≠ 0 by omega)
        have a2 := Int.emod_lt_of_pos (e * g (56 + (k : Int))) hlen
        have a3 := Int.mul_ediv_add_emod (e * g (56 + (k : Int))) len
        rw [decide_eq_true a1, jB_t]; omega
      · rw [decide_eq_false (by decide), jB_f]; omega
    omega
theorem cs_w_sum {B : Int} {g S : Int → Int} (hi : md_inv B g) : jk_sum (cs_w g S) 16 = md_len g S := by
  have h1 := jk_sum_cut (f := fun l => if S l = 0 then 0 else g (56 + l)) (c := g 1) hi.2.1.1 16 (by have := hi.2.1.2; omega)
  unfold md_len
  rw [← h1]
  refine jk_sum_cong 16 (fun l _ _ => ?_)
  unfold cs_w
  by_cases a : l < g 1
  · by_cases b : S l = 0
    · rw [if_neg (fun q => q.2 b), if_pos a, if_pos b]
    · rw [if_pos ⟨a, b⟩, if_pos a, if_neg b]
  · rw [if_neg (fun q => a q.1), if_neg a]
/-- what is missing can be given out -/
theorem cs_left {B : Int} {g S : Int → Int} {e : Int} (hi : md_inv B g) (hlen : 0 < md_len g S) : md_left g S e (md_len g S) 16 ≤ jk_sum (fun l => jB (decide (0 ≤ cs_r g S e (md_len g S) l))) 16 := by
  have h := cs_r_sum (g := g) (S := S) (e := e) hlen 16
  rw [cs_w_sum hi, Int.mul_comm e, ← Int.mul_add] at h
  have := Int.le_of_mul_le_mul_left h hlen
  unfold md_left; omega
theorem cs_p1 {B : Int} {g S : Int → Int} {e : Int} (hi : md_inv B g) (hlen : 0 < md_len g S) {l : Int} (hl : 0 ≤ l ∧ l < 16) : md_p0 g S e (md_len g S) l + jB (decide (0 ≤ cs_r g S e (md_len g S) l ∧ jk_sum (fun x => jB (cs_ahd (cs_r g S e (md_len g S)) x l)) 16 < md_left g S e (md_len g S) 16)) = if l < g 1 then md_p1 g S e (md_len g S) l else 0 := by
  by_cases hlg : l < g 1
  · rw [if_pos hlg]
    unfold md_p1
    by_cases hS : S l = 0
    · have e1 : cs_r g S e (md_len g S) l = -1 := if_neg (fun q => q.2 hS)
      have e2 : md_rem g S l e (md_len g S) = -1 := if_pos hS
      rw [decide_eq_false (fun q => by rw [e1] at q; omega), decide_eq_false (fun q => q.1 e2)]
    · have e1 : cs_r g S e (md_len g S) l = e * g (56 + l) % md_len g S := if_pos ⟨hlg, hS⟩
      have e2 : md_rem g S l e (md_len g S) = e * g (56 + l) % md_len g S := if_neg hS
      have a1 := Int.emod_nonneg (e * g (56 + l)) (show md_len g S ≠ 0 by omega)
      have e3 : jk_sum (fun x => jB (cs_ahd (cs_r g S e (md_len g S)) x l)) 16 = md_ahead g S e (md_len g S) l (g 1).toNat := by
        have h1 := jk_sum_cut (f := fun x => jB (decide (md_rem g S x e (md_len g S) > md_rem g S l e (md_len g S) ∨ (md_rem g S x e (md_len g S) = md_rem g S l e (md_len g S) ∧ x < l)))) (c := g 1) hi.2.1.1 16 (by have := hi.2.1.2; omega)
        unfold md_ahead
        rw [← h1]
        refine jk_sum_cong 16 (fun x _ _ => ?_)
        unfold cs_ahd
        rw [e1, e2]
        by_cases b : x < g 1
        · rw [if_pos b]
          have e4 : cs_r g S e (md_len g S) x = md_rem g S x e (md_len g S) := by
            unfold cs_r md_rem
            by_cases d : S x = 0
            · rw [if_neg (fun q => q.2 d), if_pos d]
            · rw [if_pos ⟨b, d⟩, if_neg d]
          rw [e4]
        · rw [if_neg b]
          have e4 : cs_r g S e (md_len g S) x = -1 := if_neg (fun q => b q.1)
          rw [e4, decide_eq_false (by omega)]; rfl
      rw [e3, e1, e2]
      congr 2
      exact decide_eq_decide.mpr ⟨fun q => ⟨by omega, q.2⟩, fun q => ⟨by omega, q.2⟩⟩
  · rw [if_neg hlg]
    have e1 : cs_r g S e (md_len g S) l = -1 := if_neg (fun q => hlg q.1)
    have e2 : md_p0 g S e (md_len g S) l = 0 := if_neg (fun q => hlg q.1)
    rw [e2, decide_eq_false (fun q => by rw [e1] at q; omega)]; rfl
def sh_dQ (y : Nat) (g S : Int → Int) (σ : jk_I) (n : Nat) (t : jk_T) (ρ : jk_P) : jk_Q := fun v' n' t' σ' ρ' => v' = none ∧ n' = n ∧ t' = t ∧ ρ' = ρ ∧ (∀ a, a ≠ y + 2 → a ≠ y + 4 → σ' a = σ a) ∧ ∀ l, 0 ≤ l ∧ l < 16 → σ' (y + 2) l = md_parts g S l
/-- sums along the way are the reference's -/
theorem cs_rise {σ : jk_I} {w c : Nat} {g S : Int → Int} (hsq : wa_sq σ w c S (g 1)) (h1 : 0 ≤ g 1) : jk_sum (fun i => σ (w + 4) i * md_cor g (σ (w + 2) i)) c = md_err g S ∧ jk_sum (fun i => g (56 + σ (w + 2) i)) c = md_len g S := by
  obtain ⟨-, -, h3, h4, h5⟩ := hsq
  have hn : ((g 1).toNat : Int) = g 1 := by omega
  have A := fun F => cm_wsum (n := (g 1).toNat) (Ln := σ (w + 2)) F c S (fun i hi9 => ⟨by rw [hn]; exact (h3 i hi9).1, by have := (h3 i hi9).2.2; omega⟩) h4 (fun k hk => h5 k (by omega))
  refine ⟨?_, ?_⟩
  · have h9 := A (fun k x => x * md_cor g k)
    have e1 : md_err g S = jk_sum (fun k => if S k = 0 then 0 else S k * md_cor g k) (g 1).toNat := jk_sum_cong _ (fun k _ _ => by
      show S k * md_cor g k = _
      by_cases e : S k = 0
      · rw [if_pos e, e]; omega
      · rw [if_neg e])
    rw [e1, ← h9]
    refine jk_sum_cong c (fun i h0 h1 => ?_)
    have := (h3 i.toNat (by omega)).2.1
    rw [show ((i.toNat : Nat) : Int) = i by omega] at this
    show σ (w + 4) i * md_cor g (σ (w + 2) i) = S (σ (w + 2) i) * md_cor g (σ (w + 2) i)
    rw [this]
  · exact A (fun k _ => g (56 + k))
theorem wa_sq_same {σ σ1 : jk_I} {w c : Nat} {S : Int → Int} {n : Int} (h : σ1 w = σ w ∧ σ1 (w + 2) = σ (w + 2) ∧ σ1 (w + 4) = σ (w + 4)) (hs : wa_sq σ w c S n) : wa_sq σ1 w c S n := by
  unfold wa_sq
  rw [h.1, h.2.1, h.2.2]
  exact hs
theorem c_X8_divide {G : jk_G} {n : Nat} {t : jk_T} {σ : jk_I} {ρ : jk_P} {y w f s c : Nat} {g S : Int → Int} {B : Int} (hsh : sh_at t ρ y s) (hwa : wa_at t ρ w f s) (hwy : w + 4 < y) (hr : cl_rel σ s g) (hi : md_inv B g) (hsq : wa_sq σ w c S (g 1)) (hSb : md_sb S) (hlen : 0 < md_len g S) : jk_K G yX8_divide mX8_divide 0 0 [.ref y, .ref w] n t σ ρ (sh_dQ y g S σ n t ρ) jk_no := by
  obtain ⟨⟨hy1, hy2, hy3⟩, ⟨hq1, hq2, hq3⟩, hs, hsy⟩ := id hsh
  obtain ⟨⟨ha1, ha2, ha3⟩, ⟨hb1, hb2, hb3, hb4⟩, hf, hfw⟩ := id hwa
  have i0 := hi.1
  have i1 := hi.2.1
  have i2 := hi.2.2.1.2
  obtain ⟨hc4, hc16, hcL, hcN, hcX⟩ := id hsq
  have hri := cs_rise hsq i1.1
  have hlb := md_len_bd (S := S) hi
  have hsw : s + 44 < w := (by have := hf.2.2.2.2.2; omega)
  have heb := md_err_bd hi (S := S) (fun l _ => hSb l)
  have hab : 0 ≤ (md_abs (md_err g S)) ∧ (md_abs (md_err g S)) ≤ 17759984 := (by unfold md_abs; split <;> omega)
  refine jk_entryB (ls := [some (.ref y), some (.ref w), none, none, none, none, none, none]) jm_X8_divide.1 rfl rfl rfl ?_
  refine jk_iconst (q := 1) dX8_divide_0 rfl ?_
  refine jk_istore2 (q := 2) dX8_divide_1 rfl rfl rfl ?_
  have L2 : ∀ k2 : Nat, k2 ≤ 16 → ∀ (σ1 : jk_I), (h1 : σ1 = jk_row (jk_row σ (y + 2) (jk_fill (σ (y + 2)) (fun _ => 0) k2)) (y + 4) (jk_fill (σ (y + 4)) (fun _ => -1) k2)) → jk_J G mX8_divide 2 [some (.ref y), some (.ref w), some (jI (k2 : Int)), none, none, none, none, none] [] n t σ1 ρ 0 0 (sh_dQ y g S σ n t ρ) jk_no := by
    refine jk_loop _ (fun k2 hk2 ih2 => ?_)
    intro σ1 h1
    have hP1 : σ1 (y + 2) = jk_fill (σ (y + 2)) (fun _ => 0) k2 := by rw [h1, jk_row_ne _ _ (by omega), jk_row_same]
    have hR1 : σ1 (y + 4) = jk_fill (σ (y + 4)) (fun _ => -1) k2 := by rw [h1, jk_row_same]
    have hr1 : cl_rel σ1 s g := cl_rel_same i2 (fun a h8 h9 => by rw [h1, jk_row_ne _ _ (by omega), jk_row_ne _ _ (by omega)]) hr
    have hw0 : σ1 w = σ w := by rw [h1, jk_row_ne _ _ (by omega), jk_row_ne _ _ (by omega)]
    have hw2 : σ1 (w + 2) = σ (w + 2) := by rw [h1, jk_row_ne _ _ (by omega), jk_row_ne _ _ (by omega)]
    have hw4 : σ1 (w + 4) = σ (w + 4) := by rw [h1, jk_row_ne _ _ (by omega), jk_row_ne _ _ (by omega)]
    have hsq1 := wa_sq_same ⟨hw0, hw2, hw4⟩ hsq
    refine jk_iload_n (q := 3) dX8_divide_2 rfl rfl ?_
    refine jk_bipush (q := 5) (y := 16) dX8_divide_3 rfl (by decide) ?_
    refine jk_icmp_ge (q := 28) (q2 := 8) dX8_divide_5 rfl rfl (by first | assumption | decide | omega | exact jB_01 _ | exact jB_in _ | exact ⟨by omega, by omega⟩) (by first | assumption | decide | omega | exact jB_01 _ | exact jB_in _ | exact ⟨by omega, by omega⟩) (fun z1 => ?_) (fun z1 => ?_)
    · refine jk_aload_n (q := 29) dX8_divide_28 rfl rfl ?_
      refine jk_cV0p (q := 32) (c_X11_rise (σ := σ1) hwa hr1 hi (hsq1.1) hc16 (fun i hi9 => (hsq1.2.2.1 i hi9).1)) jm_X11_rise jw_776 rfl (by first | exact hy1 | exact hy2 | exact hy3 | exact ha1 | exact ha2 | exact ha3 | exact hs.1 | exact hs.2.1 _ _ rfl | assumption) rfl rfl rfl dX8_divide_29 rfl ?_
      rw [(cs_rise hsq1 i1.1).1]
      refine jk_mabs (q := 35) jw_777 rfl rfl (by first | assumption | decide | omega | exact jB_01 _ | exact jB_in _ | exact ⟨by omega, by omega⟩) (by first | assumption | decide | omega | exact jB_01 _ | exact jB_in _ | exact ⟨by omega, by omega⟩) dX8_divide_32 rfl ?_
      refine jk_istore2 (q := 36) dX8_divide_35 rfl rfl rfl ?_
      refine jk_aload_n (q := 37) dX8_divide_36 rfl rfl ?_
      refine jk_cV0p (q := 40) (c_X11_totalLength (σ := σ1) hwa hr1 hi (hsq1.1) hc16 (fun i hi9 => (hsq1.2.2.1 i hi9).1)) jm_X11_totalLength jw_778 rfl (by first | exact hy1 | exact hy2 | exact hy3 | exact ha1 | exact ha2 | exact ha3 | exact hs.1 | exact hs.2.1 _ _ rfl | assumption) rfl rfl rfl dX8_divide_37 rfl ?_
      rw [(cs_rise hsq1 i1.1).2]
      refine jk_istore3 (q := 41) dX8_divide_40 rfl rfl rfl ?_
      refine jk_iload_n (q := 42) dX8_divide_41 rfl rfl ?_
      refine jk_if_gt (q := 46) (q2 := 45) dX8_divide_42 rfl rfl (by first | assumption | decide | omega | exact jB_01 _ | exact jB_in _ | exact ⟨by omega, by omega⟩) (fun z2 => ?_) (fun z2 => ?_)
      · refine jk_iload_n (q := 47) dX8_divide_46 rfl rfl ?_
        refine jk_istore4 (q := 49) dX8_divide_47 rfl rfl rfl ?_
        refine jk_iconst (q := 50) dX8_divide_49 rfl ?_
        refine jk_istore5 (q := 52) dX8_divide_50 rfl rfl rfl ?_
        have L52 : ∀ k52 : Nat, k52 ≤ c → ∀ (σ1 : jk_I) (P2 R2 : Int → Int), (h1 : σ1 = jk_row (jk_row σ (y + 2) P2) (y + 4) R2) → (hin : ∀ j : Nat, j < k52 → P2 (σ (w + 2) (j : Int)) = (md_abs (md_err g S)) * g (56 + σ (w + 2) (j : Int)) / (md_len g S) ∧ R2 (σ (w + 2) (j : Int)) = (md_abs (md_err g S)) * g (56 + σ (w + 2) (j : Int)) % (md_len g S)) → (hout : ∀ l, 0 ≤ l ∧ l < 16 → (∀ j : Nat, j < k52 → σ (w + 2) (j : Int) ≠ l) → P2 l = 0 ∧ R2 l = -1) → jk_J G mX8_divide 52 [some (.ref y), some (.ref w), some (jI (md_abs (md_err g S))), some (jI (md_len g S)), some (jI ((md_abs (md_err g S)) - (jk_sum (fun i => (md_abs (md_err g S)) * g (56 + σ (w + 2) i) / (md_len g S)) k52))), some (jI (k52 : Int)), none, none] [] n t σ1 ρ 0 0 (sh_dQ y g S σ n t ρ) jk_no := by
          refine jk_loop _ (fun k52 hk52 ih52 => ?_)
          intro σ1 P2 R2 h1 hin hout
          have hP1 : σ1 (y + 2) = P2 := by rw [h1, jk_row_ne _ _ (by omega), jk_row_same]
          have hR1 : σ1 (y + 4) = R2 := by rw [h1, jk_row_same]
          have hr1 : cl_rel σ1 s g := cl_rel_same i2 (fun a h8 h9 => by rw [h1, jk_row_ne _ _ (by omega), jk_row_ne _ _ (by omega)]) hr
          have hw0 : σ1 w = σ w := by rw [h1, jk_row_ne _ _ (by omega), jk_row_ne _ _ (by omega)]
          have hw2 : σ1 (w + 2) = σ (w + 2) := by rw [h1, jk_row_ne _ _ (by omega), jk_row_ne _ _ (by omega)]
          have hw4 : σ1 (w + 4) = σ (w + 4) := by rw [h1, jk_row_ne _ _ (by omega), jk_row_ne _ _ (by omega)]
          have hsq1 := wa_sq_same ⟨hw0, hw2, hw4⟩ hsq
          refine jk_iload (q := 54) dX8_divide_52 rfl rfl ?_
          refine jk_aload_n (q := 55) dX8_divide_54 rfl rfl ?_
          refine jk_getIR (q := 58) (k := 11) 4 4 rfl (by first | exact hy1 | exact hy2 | exact hy3 | exact ha1 | exact ha2 | exact ha3 | exact hs.1 | exact hs.2.1 _ _ rfl | assumption) (by first | exact jk_row_same _ _ _ | ((repeat rewrite [jk_row_ne _ _ (by omega)]); first | exact jk_row_same _ _ _ | exact hP1 | exact hR1 | exact hw2 | rfl)) rfl rfl jw_225 dX8_divide_55 rfl ?_
          rw [hw0, hc4]
          refine jk_icmp_ge (q := 124) (q2 := 61) dX8_divide_58 rfl rfl (by first | assumption | decide | omega | exact jB_01 _ | exact jB_in _ | exact ⟨by omega, by omega⟩) (by first | assumption | decide | omega | exact jB_01 _ | exact jB_in _ | exact ⟨by omega, by omega⟩) (fun z3 => ?_) (fun z3 => ?_)
          · have hkc : k52 = c := by omega
            subst hkc
            have hP9 : ∀ l, 0 ≤ l ∧ l < 16 → P2 l = md_p0 g S (md_abs (md_err g S)) (md_len g S) l ∧ R2 l = cs_r g S (md_abs (md_err g S)) (md_len g S) l := fun l hl => by
              unfold md_p0 cs_r
              by_cases hx : l < g 1 ∧ S l ≠ 0
              · rw [if_pos hx, if_pos hx]
                obtain ⟨j, hj, ej⟩ := hcX l ⟨hl.1, hx.1⟩ hx.2
                have := hin j hj
                rw [ej] at this; exact this
              · rw [if_neg hx, if_neg hx]
                refine hout l hl (fun j hj q => hx ?_)
                have := hcL j hj
                rw [q] at this
                exact ⟨this.1.2, by omega⟩
            have hsum : md_left g S (md_abs (md_err g S)) (md_len g S) 16 = (md_abs (md_err g S)) - jk_sum (fun i => (md_abs (md_err g S)) * g (56 + σ (w + 2) i) / (md_len g S)) k52 := by
              have hn : ((g 1).toNat : Int) = g 1 := by omega
              have A := cm_wsum (n := (g 1).toNat) (Ln := σ (w + 2)) (fun k _ => (md_abs (md_err g S)) * g (56 + k) / (md_len g S)) k52 S (fun i hi9 => ⟨by rw [hn]; exact (hcL i hi9).1, by have := (hcL i hi9).2.2; omega⟩) hcN (fun k hk => hcX k (by omega))
              have A' : jk_sum (fun i => (md_abs (md_err g S)) * g (56 + σ (w + 2) i) / (md_len g S)) k52 = _ := A
              have h9 := jk_sum_cut (f := fun k => if S k = 0 then 0 else (md_abs (md_err g S)) * g (56 + k) / (md_len g S)) (c := g 1) i1.1 16 (by have := i1.2; omega)
              unfold md_left
              rw [A', ← h9]
              congr 1
              refine jk_sum_cong 16 (fun l _ _ => ?_)
              unfold md_p0
              by_cases a : l < g 1
              · by_cases b : S l = 0
                · rw [if_neg (fun q => q.2 b), if_pos a, if_pos b]
                · rw [if_pos ⟨a, b⟩, if_pos a, if_neg b]
              · rw [if_neg (fun q => a q.1), if_neg a]
            have hlb2 := md_left_bd (S := S) (e := (md_abs (md_err g S))) hi hab.1 hlen
            have hlf := cs_left (S := S) (e := (md_abs (md_err g S))) hi hlen
            have h16 := jk_sum_bd (f := fun l => jB (decide (0 ≤ cs_r g S (md_abs (md_err g S)) (md_len g S) l))) (a := 0) (b := 1) (fun i => by show 0 ≤ jB _ ∧ jB _ ≤ 1; cases decide (0 ≤ cs_r g S (md_abs (md_err g S)) (md_len g S) i) <;> decide) 16
            have hRb : ∀ l, 0 ≤ l ∧ l < 16 → -1 ≤ R2 l ∧ R2 l < 1000000000 := fun l hl => by
              rw [(hP9 l hl).2]; unfold cs_r
              have b1 := Int.emod_nonneg ((md_abs (md_err g S)) * g (56 + l)) (show (md_len g S) ≠ 0 by omega)
              have b2 := Int.emod_lt_of_pos ((md_abs (md_err g S)) * g (56 + l)) hlen
              split <;> omega
            have hMb : 0 ≤ (md_abs (md_err g S)) - (jk_sum (fun i => (md_abs (md_err g S)) * g (56 + σ (w + 2) i) / (md_len g S)) k52) ∧ (md_abs (md_err g S)) - (jk_sum (fun i => (md_abs (md_err g S)) * g (56 + σ (w + 2) i) / (md_len g S)) k52) ≤ 16 := (by omega)
            have hcong : jk_sum (fun l => jB (decide (0 ≤ R2 l))) 16 = jk_sum (fun l => jB (decide (0 ≤ cs_r g S (md_abs (md_err g S)) (md_len g S) l))) 16 := jk_sum_cong 16 (fun l h0 h9 => by rw [(hP9 l ⟨h0, by omega⟩).2])
            have hCN : (md_abs (md_err g S)) - (jk_sum (fun i => (md_abs (md_err g S)) * g (56 + σ (w + 2) i) / (md_len g S)) k52) ≤ jk_sum (fun l => jB (decide (0 ≤ R2 l))) 16 := (by omega)
            refine jk_aload_n (q := 125) dX8_divide_124 rfl rfl ?_
            refine jk_iload (q := 127) dX8_divide_125 rfl rfl ?_
            refine jk_cV1g (q := 130) (c_X8_giveOut (σ := σ1) (PT := P2) (R := R2) (M := (md_abs (md_err g S)) - (jk_sum (fun i => (md_abs (md_err g S)) * g (56 + σ (w + 2) i) / (md_len g S)) k52)) hsh hP1 hR1 hRb hMb hCN) jm_X8_giveOut jw_779 rfl (by first | exact hy1 | exact hy2 | exact hy3 | exact ha1 | exact ha2 | exact ha3 | exact hs.1 | exact hs.2.1 _ _ rfl | assumption) rfl rfl (Nat.zero_le _) (Nat.zero_le _) rfl dX8_divide_127 rfl (fun v' n' t' σ' ρ' hq => ?_) (fun _ _ _ _ _ h => h.elim)
            obtain ⟨rfl, hn9, ht9, hr9, hfrG, hG⟩ := hq
            replace hn9 := hn9.symm; replace ht9 := ht9.symm; replace hr9 := hr9.symm; subst hn9 ht9 hr9
            simp only [Option.toList_some, Option.toList_none, List.cons_append, List.nil_append, Nat.sub_zero]
            exact jk_ret rfl dX8_divide_130 (by 
                refine ⟨rfl, rfl, rfl, rfl, fun a a1 a2 => by rw [hfrG a a1 a2, h1, jk_row_ne _ _ a2, jk_row_ne _ _ a1], fun l hl => ?_⟩
                rw [hG l hl, (hP9 l hl).1, (hP9 l hl).2, ← hsum]
                have e9 : jk_sum (fun x => jB (cs_ahd R2 x l)) 16 = jk_sum (fun x => jB (cs_ahd (cs_r g S (md_abs (md_err g S)) (md_len g S)) x l)) 16 := jk_sum_cong 16 (fun x h0 h9 => by unfold cs_ahd; rw [(hP9 x ⟨h0, by omega⟩).2, (hP9 l hl).2])
                rw [e9, cs_p1 hi hlen hl]
                unfold md_parts
                rw [if_pos hl])
          · have hb := (hcL k52 (by omega)).1
            refine jk_aload_n (q := 62) dX8_divide_61 rfl rfl ?_
            refine jk_getA (q := 65) (k := 11) 2 2 rfl (by first | exact hy1 | exact hy2 | exact hy3 | exact ha1 | exact ha2 | exact ha3 | exact hs.1 | exact hs.2.1 _ _ rfl | assumption) (by first | exact hq1 | exact hq2 | exact hq3 | exact hb1 | exact hb2 | exact hb3 | exact hb4 | exact hs.2.2.1 _ _ rfl | assumption) rfl rfl jw_221 dX8_divide_62 rfl ?_
            refine jk_iload (q := 67) dX8_divide_65 rfl rfl ?_
            refine jk_ialdR (q := 68) (by first | exact hy1 | exact hy2 | exact hy3 | exact ha1 | exact ha2 | exact ha3 | exact hs.1 | exact hs.2.1 _ _ rfl | assumption) (by first | exact jk_row_same _ _ _ | ((repeat rewrite [jk_row_ne _ _ (by omega)]); first | exact jk_row_same _ _ _ | exact hP1 | exact hR1 | exact hw2 | rfl)) (by first | assumption | decide | omega | exact jB_01 _ | exact jB_in _ | exact ⟨by omega, by omega⟩) dX8_divide_67 rfl ?_
            refine jk_istore6 (q := 70) dX8_divide_68 rfl rfl rfl ?_
            refine jk_iload_n (q := 71) dX8_divide_70 rfl rfl ?_
            refine jk_aload_n (q := 72) dX8_divide_71 rfl rfl ?_
            refine jk_getA (q := 75) (k := 8) 0 0 rfl (by first | exact hy1 | exact hy2 | exact hy3 | exact ha1 | exact ha2 | exact ha3 | exact hs.1 | exact hs.2.1 _ _ rfl | assumption) (by first | exact hq1 | exact hq2 | exact hq3 | exact hb1 | exact hb2 | exact hb3 | exact hb4 | exact hs.2.2.1 _ _ rfl | assumption) rfl rfl jw_244 dX8_divide_72 rfl ?_
            refine jk_getA (q := 78) (k := 9) 6 6 rfl (by first | exact hy1 | exact hy2 | exact hy3 | exact ha1 | exact ha2 | exact ha3 | exact hs.1 | exact hs.2.1 _ _ rfl | assumption) (by first | exact hq1 | exact hq2 | exact hq3 | exact hb1 | exact hb2 | exact hb3 | exact hb4 | exact hs.2.2.1 _ _ rfl | assumption) rfl rfl jw_86 dX8_divide_75 rfl ?_
            refine jk_iload (q := 80) dX8_divide_78 rfl rfl ?_
            refine jk_ialdR (q := 81) (by first | exact hy1 | exact hy2 | exact hy3 | exact ha1 | exact ha2 | exact ha3 | exact hs.1 | exact hs.2.1 _ _ rfl | assumption) (by first | exact jk_row_same _ _ _ | ((repeat rewrite [jk_row_ne _ _ (by omega)]); first | exact jk_row_same _ _ _ | exact hP1 | exact hR1 | exact hw2 | rfl)) (by first | assumption | decide | omega | exact jB_01 _ | exact jB_in _ | exact ⟨by omega, by omega⟩) dX8_divide_80 rfl ?_
            obtain ⟨u1, u2, u3, -⟩ := hr1.2.2.1 _ hb
            have ub := (md_inv_ln hi (l := σ (w + 2) (k52 : Int)) ⟨by omega, by omega⟩).2.2.1
            rw [u3]
            have hpb : 0 ≤ (md_abs (md_err g S)) * g (56 + σ (w + 2) (k52 : Int)) ∧ (md_abs (md_err g S)) * g (56 + σ (w + 2) (k52 : Int)) ≤ 17759984 * 50 := ⟨Int.mul_nonneg hab.1 ub.1, Int.mul_le_mul hab.2 ub.2 ub.1 (by omega)⟩
            refine jk_imul (q := 82) dX8_divide_81 rfl ?_
            refine jk_istore7 (q := 84) dX8_divide_82 rfl rfl rfl ?_
            refine jk_aload_n (q := 85) dX8_divide_84 rfl rfl ?_
            refine jk_getA (q := 88) (k := 8) 1 1 rfl (by first | exact hy1 | exact hy2 | exact hy3 | exact ha1 | exact ha2 | exact ha3 | exact hs.1 | exact hs.2.1 _ _ rfl | assumption) (by first | exact hq1 | exact hq2 | exact hq3 | exact hb1 | exact hb2 | exact hb3 | exact hb4 | exact hs.2.2.1 _ _ rfl | assumption) rfl rfl jw_245 dX8_divide_85 rfl ?_
            refine jk_iload (q := 90) dX8_divide_88 rfl rfl ?_
            refine jk_iload (q := 92) dX8_divide_90 rfl rfl ?_
            refine jk_iload_n (q := 93) dX8_divide_92 rfl rfl ?_
            refine jk_idivP (q := 94) dX8_divide_93 rfl (by first | assumption | decide | omega | exact jB_01 _ | exact jB_in _ | exact ⟨by omega, by omega⟩) ?_
            refine jk_iastR (q := 95) (by first | exact hy1 | exact hy2 | exact hy3 | exact ha1 | exact ha2 | exact ha3 | exact hs.1 | exact hs.2.1 _ _ rfl | assumption) (by first | exact jk_row_same _ _ _ | ((repeat rewrite [jk_row_ne _ _ (by omega)]); first | exact jk_row_same _ _ _ | exact hP1 | exact hR1 | exact hw2 | rfl)) (by first | assumption | decide | omega | exact jB_01 _ | exact jB_in _ | exact ⟨by omega, by omega⟩) dX8_divide_94 rfl ?_
            refine jk_aload_n (q := 96) dX8_divide_95 rfl rfl ?_
            refine jk_getA (q := 99) (k := 8) 2 2 rfl (by first | exact hy1 | exact hy2 | exact hy3 | exact ha1 | exact ha2 | exact ha3 | exact hs.1 | exact hs.2.1 _ _ rfl | assumption) (by first | exact hq1 | exact hq2 | exact hq3 | exact hb1 | exact hb2 | exact hb3 | exact hb4 | exact hs.2.2.1 _ _ rfl | assumption) rfl rfl jw_247 dX8_divide_96 rfl ?_
            refine jk_iload (q := 101) dX8_divide_99 rfl rfl ?_
            refine jk_iload (q := 103) dX8_divide_101 rfl rfl ?_
            refine jk_iload_n (q := 104) dX8_divide_103 rfl rfl ?_
            refine jk_iremP (q := 105) dX8_divide_104 rfl (by first | assumption | decide | omega | exact jB_01 _ | exact jB_in _ | exact ⟨by omega, by omega⟩) ?_
            refine jk_iastR (q := 106) (by first | exact hy1 | exact hy2 | exact hy3 | exact ha1 | exact ha2 | exact ha3 | exact hs.1 | exact hs.2.1 _ _ rfl | assumption) (by first | exact jk_row_same _ _ _ | ((repeat rewrite [jk_row_ne _ _ (by omega)]); first | exact jk_row_same _ _ _ | exact hP1 | exact hR1 | exact hw2 | rfl)) (by first | assumption | decide | omega | exact jB_01 _ | exact jB_in _ | exact ⟨by omega, by omega⟩) dX8_divide_105 rfl ?_
            refine jk_iload (q := 108) dX8_divide_106 rfl rfl ?_
            refine jk_aload_n (q := 109) dX8_divide_108 rfl rfl ?_
            refine jk_getA (q := 112) (k := 8) 1 1 rfl (by first | exact hy1 | exact hy2 | exact hy3 | exact ha1 | exact ha2 | exact ha3 | exact hs.1 | exact hs.2.1 _ _ rfl | assumption) (by first | exact hq1 | exact hq2 | exact hq3 | exact hb1 | exact hb2 | exact hb3 | exact hb4 | exact hs.2.2.1 _ _ rfl | assumption) rfl rfl jw_245 dX8_divide_109 rfl ?_
            refine jk_iload (q := 114) dX8_divide_112 rfl rfl ?_
            refine jk_ialdR (q := 115) (by first | exact hy1 | exact hy2 | exact hy3 | exact ha1 | exact ha2 | exact ha3 | exact hs.1 | exact hs.2.1 _ _ rfl | assumption) (by first | exact jk_row_same _ _ _ | ((repeat rewrite [jk_row_ne _ _ (by omega)]); first | exact jk_row_same _ _ _ | exact hP1 | exact hR1 | exact hw2 | rfl)) (by first | assumption | decide | omega | exact jB_01 _ | exact jB_in _ | exact ⟨by omega, by omega⟩) dX8_divide_114 rfl ?_
            refine jk_isub (q := 116) dX8_divide_115 rfl ?_
            refine jk_istore4 (q := 118) dX8_divide_116 rfl rfl rfl ?_
            refine jk_iinc5 (q := 121) dX8_divide_118 rfl rfl rfl ?_
            refine jk_goto (q := 52) dX8_divide_121 rfl ?_
            refine jk_convw (ih52 (by omega) _ (jk_set P2 (σ (w + 2) (k52 : Int)) ((md_abs (md_err g S)) * g (56 + σ (w + 2) (k52 : Int)) / (md_len g S))) (jk_set R2 (σ (w + 2) (k52 : Int)) ((md_abs (md_err g S)) * g (56 + σ (w + 2) (k52 : Int)) % (md_len g S))) (by rw [h1, jk_rr _ _ _ _ _ (show y + 2 ≠ y + 4 by omega)]) (fun j hj => ?_) (fun l hl hne => ?_)) (jk_wkS rfl (jk_wkS rfl (jk_wkS rfl (jk_wkS rfl (jk_wkS (jk_li ?_) (jk_wkS rfl (jk_wkN (jk_wkN jk_wk0))))))))
            · by_cases e : j = k52
              · rw [e, jk_set_at, jk_set_at]; exact ⟨rfl, rfl⟩
              · have := hcN j k52 (by omega) (by omega)
                rw [jk_set_ne _ _ this, jk_set_ne _ _ this]; exact hin j (by omega)
            · have e : ¬ l = σ (w + 2) (k52 : Int) := fun q => hne k52 (by omega) q.symm
              rw [jk_set_ne _ _ e, jk_set_ne _ _ e]; exact hout l hl (fun j hj => hne j (by omega))
            · show (md_abs (md_err g S)) - ((jk_sum (fun i => (md_abs (md_err g S)) * g (56 + σ (w + 2) i) / (md_len g S)) k52) + (md_abs (md_err g S)) * g (56 + σ (w + 2) (k52 : Int)) / (md_len g S)) = _
              rw [jk_set_at]; omega
        have hk9 : k2 = 16 := by omega
        subst hk9
        exact jk_convw (L52 0 (Nat.zero_le _) _ _ _ h1 (fun j hj => absurd hj (Nat.not_lt_zero j)) (fun l hl _ => ⟨if_pos ⟨hl.1, by omega⟩, if_pos ⟨hl.1, by omega⟩⟩)) (jk_wkS rfl (jk_wkS rfl (jk_wkS rfl (jk_wkS rfl (jk_wkS (jk_li (by show (md_abs (md_err g S)) - 0 = _; omega)) (jk_wkS rfl (jk_wkN (jk_wkN jk_wk0))))))))
      · exact jk_ret rfl dX8_divide_45 (by exfalso; omega)
    · refine jk_aload_n (q := 9) dX8_divide_8 rfl rfl ?_
      refine jk_getA (q := 12) (k := 8) 1 1 rfl (by first | exact hy1 | exact hy2 | exact hy3 | exact ha1 | exact ha2 | exact ha3 | exact hs.1 | exact hs.2.1 _ _ rfl | assumption) (by first | exact hq1 | exact hq2 | exact hq3 | exact hb1 | exact hb2 | exact hb3 | exact hb4 | exact hs.2.2.1 _ _ rfl | assumption) rfl rfl jw_245 dX8_divide_9 rfl ?_
      refine jk_iload_n (q := 13) dX8_divide_12 rfl rfl ?_
      refine jk_iconst (q := 14) dX8_divide_13 rfl ?_
      refine jk_iastR (q := 15) (by first | exact hy1 | exact hy2 | exact hy3 | exact ha1 | exact ha2 | exact ha3 | exact hs.1 | exact hs.2.1 _ _ rfl | assumption) (by first | exact jk_row_same _ _ _ | ((repeat rewrite [jk_row_ne _ _ (by omega)]); first | exact jk_row_same _ _ _ | exact hP1 | exact hR1 | rfl)) (by first | assumption | decide | omega | exact jB_01 _ | exact jB_in _ | exact ⟨by omega, by omega⟩) dX8_divide_14 rfl ?_
      refine jk_aload_n (q := 16) dX8_divide_15 rfl rfl ?_
      refine jk_getA (q := 19) (k := 8) 2 2 rfl (by first | exact hy1 | exact hy2 | exact hy3 | exact ha1 | exact ha2 | exact ha3 | exact hs.1 | exact hs.2.1 _ _ rfl | assumption) (by first | exact hq1 | exact hq2 | exact hq3 | exact hb1 | exact hb2 | exact hb3 | exact hb4 | exact hs.2.2.1 _ _ rfl | assumption) rfl rfl jw_247 dX8_divide_16 rfl ?_
      refine jk_iload_n (q := 20) dX8_divide_19 rfl rfl ?_
      refine jk_iconst (q := 21) dX8_divide_20 rfl ?_
      refine jk_iastR (q := 22) (by first | exact hy1 | exact hy2 | exact hy3 | exact ha1 | exact ha2 | exact ha3 | exact hs.1 | exact hs.2.1 _ _ rfl | assumption) (by first | exact jk_row_same _ _ _ | ((repeat rewrite [jk_row_ne _ _ (by omega)]); first | exact jk_row_same _ _ _ | exact hP1 | exact hR1 | rfl)) (by first | assumption | decide | omega | exact jB_01 _ | exact jB_in _ | exact ⟨by omega, by omega⟩) dX8_divide_21 rfl ?_
      refine jk_iinc2 (q := 25) dX8_divide_22 rfl rfl rfl ?_
      refine jk_goto (q := 2) dX8_divide_25 rfl ?_
      exact jk_convw (ih2 (by omega) _ (by rw [h1, jk_rr _ _ _ _ _ (show y + 2 ≠ y + 4 by omega), jk_fill_S _ _ _ _ rfl, jk_fill_S _ _ _ _ rfl])) (jk_wkS rfl (jk_wkS rfl (jk_wkS rfl (jk_wkN (jk_wkN (jk_wkN (jk_wkN (jk_wkN jk_wk0))))))))
  exact jk_convw (L2 0 (Nat.zero_le _) _ (by rw [jk_fill_0, jk_fill_0, jk_row_self, jk_row_self])) (jk_wkS rfl (jk_wkS rfl (jk_wkS rfl (jk_wkN (jk_wkN (jk_wkN (jk_wkN (jk_wkN jk_wk0))))))))
def sh_cQ (s : Nat) (g S : Int → Int) (σ : jk_I) (n : Nat) (t : jk_T) (ρ : jk_P) : jk_Q := fun v' n' t' σ' ρ' => v' = none ∧ n' = n ∧ t' = t ∧ ρ' = ρ ∧ (∀ a, a ≠ s + 20 → σ' a = σ a) ∧ ∀ l, 0 ≤ l ∧ l < g 1 → σ' (s + 20) l = σ (s + 20) l + md_dir (md_err g S) * S l * (md_parts g S) l
theorem c_X8_correct {G : jk_G} {n : Nat} {t : jk_T} {σ : jk_I} {ρ : jk_P} {y w f s c : Nat} {g S : Int → Int} {B : Int} (hsh : sh_at t ρ y s) (hwa : wa_at t ρ w f s) (hwy : w + 4 < y) (hr : cl_rel σ s g) (hi : md_inv B g) (hsq : wa_sq σ w c S (g 1)) (hSb : md_sb S) (hP : ∀ l, 0 ≤ l ∧ l < 16 → σ (y + 2) l = (md_parts g S) l) : jk_K G yX8_correct mX8_correct 0 0 [.ref y, .ref w] n t σ ρ (sh_cQ s g S σ n t ρ) jk_no := by
  obtain ⟨⟨hy1, hy2, hy3⟩, ⟨hq1, hq2, hq3⟩, hs, hsy⟩ := id hsh
  obtain ⟨⟨ha1, ha2, ha3⟩, ⟨hb1, hb2, hb3, hb4⟩, hf, hfw⟩ := id hwa
  have i0 := hi.1
  have i1 := hi.2.1
  have i2 := hi.2.2.1.2
  obtain ⟨hc4, hc16, hcL, hcN, hcX⟩ := id hsq
  have hri := cs_rise hsq i1.1
  have hlb := md_len_bd (S := S) hi
  have hsw : s + 44 < w := (by have := hf.2.2.2.2.2; omega)
  have heb := md_err_bd hi (S := S) (fun l _ => hSb l)
  refine jk_entryB (ls := [some (.ref y), some (.ref w), none, none, none]) jm_X8_correct.1 rfl rfl rfl ?_
  refine jk_aload_n (q := 1) dX8_correct_0 rfl rfl ?_
  refine jk_cV0p (q := 4) (c_X11_rise (σ := σ) hwa hr hi hc4 hc16 (fun i hi9 => (hcL i hi9).1)) jm_X11_rise jw_776 rfl (by first | exact hy1 | exact hy2 | exact hy3 | exact ha1 | exact ha2 | exact ha3 | exact hs.1 | exact hs.2.1 _ _ rfl | assumption) rfl rfl rfl dX8_correct_1 rfl ?_
  rw [hri.1]
  refine jk_if_le (q := 11) (q2 := 7) dX8_correct_4 rfl rfl (by first | assumption | decide | omega | exact jB_01 _ | exact jB_in _ | exact ⟨by omega, by omega⟩) (fun z1 => ?_) (fun z1 => ?_)
  · refine jk_iconst (q := 12) dX8_correct_11 rfl ?_
    refine jk_istore2 (q := 13) dX8_correct_12 rfl rfl rfl ?_
    refine jk_iconst (q := 14) dX8_correct_13 rfl ?_
    refine jk_istore3 (q := 15) dX8_correct_14 rfl rfl rfl ?_
    have L15 : ∀ k15 : Nat, k15 ≤ c → ∀ (σ1 : jk_I) (C2 : Int → Int), (h1 : σ1 = jk_row σ (s + 20) C2) → (hin : ∀ j : Nat, j < k15 → C2 (σ (w + 2) (j : Int)) = σ (s + 20) (σ (w + 2) (j : Int)) + md_dir (md_err g S) * S (σ (w + 2) (j : Int)) * (md_parts g S) (σ (w + 2) (j : Int))) → (hout : ∀ l, (∀ j : Nat, j < k15 → σ (w + 2) (j : Int) ≠ l) → C2 l = σ (s + 20) l) → jk_J G mX8_correct 15 [some (.ref y), some (.ref w), some (jI (md_dir (md_err g S))), some (jI (k15 : Int)), none] [] n t σ1 ρ 0 0 (sh_cQ s g S σ n t ρ) jk_no := by
      refine jk_loop _ (fun k15 hk15 ih15 => ?_)
      intro σ1 C2 h1 hin hout
      have hC1 : σ1 (s + 20) = C2 := by rw [h1, jk_row_same]
      have hw0 : σ1 w = σ w := by rw [h1, jk_row_ne _ _ (by omega)]
      have hw2 : σ1 (w + 2) = σ (w + 2) := by rw [h1, jk_row_ne _ _ (by omega)]
      have hw4 : σ1 (w + 4) = σ (w + 4) := by rw [h1, jk_row_ne _ _ (by omega)]
      have hy9 : σ1 (y + 2) = σ (y + 2) := by rw [h1, jk_row_ne _ _ (by omega)]
      refine jk_iload_n (q := 16) dX8_correct_15 rfl rfl ?_
      refine jk_aload_n (q := 17) dX8_correct_16 rfl rfl ?_
      refine jk_getIR (q := 20) (k := 11) 4 4 rfl (by first | exact hy1 | exact hy2 | exact hy3 | exact ha1 | exact ha2 | exact ha3 | exact hs.1 | exact hs.2.1 _ _ rfl | assumption) (by first | exact jk_row_same _ _ _ | ((repeat rewrite [jk_row_ne _ _ (by omega)]); first | exact jk_row_same _ _ _ | exact hC1 | exact hw2 | exact hw4 | rfl)) rfl rfl jw_225 dX8_correct_17 rfl ?_
      rw [hw0, hc4]
      refine jk_icmp_ge (q := 66) (q2 := 23) dX8_correct_20 rfl rfl (by first | assumption | decide | omega | exact jB_01 _ | exact jB_in _ | exact ⟨by omega, by omega⟩) (by first | assumption | decide | omega | exact jB_01 _ | exact jB_in _ | exact ⟨by omega, by omega⟩) (fun z2 => ?_) (fun z2 => ?_)
      · exact jk_ret rfl dX8_correct_66 (by 
            have hkc : k15 = c := by omega
            subst hkc
            exact ⟨rfl, rfl, rfl, rfl, fun a a1 => by rw [h1, jk_row_ne _ _ a1], fun l hl => by
              rw [hC1]
              by_cases e : S l = 0
              · rw [hout l (fun j hj q => by have := (hcL j hj).2.2; rw [q] at this; omega), e]; simp
              · obtain ⟨j, hj, ej⟩ := hcX l hl e
                have := hin j hj
                rw [ej] at this; exact this⟩)
      · have hb := hcL k15 (by omega)
        have hb1 := hb.1
        refine jk_aload_n (q := 24) dX8_correct_23 rfl rfl ?_
        refine jk_getA (q := 27) (k := 11) 2 2 rfl (by first | exact hy1 | exact hy2 | exact hy3 | exact ha1 | exact ha2 | exact ha3 | exact hs.1 | exact hs.2.1 _ _ rfl | assumption) (by first | exact hq1 | exact hq2 | exact hq3 | exact hb1 | exact hb2 | exact hb3 | exact hb4 | exact hs.2.2.1 _ _ rfl | assumption) rfl rfl jw_221 dX8_correct_24 rfl ?_
        refine jk_iload_n (q := 28) dX8_correct_27 rfl rfl ?_
        refine jk_ialdR (q := 29) (by first | exact hy1 | exact hy2 | exact hy3 | exact ha1 | exact ha2 | exact ha3 | exact hs.1 | exact hs.2.1 _ _ rfl | assumption) (by first | exact jk_row_same _ _ _ | ((repeat rewrite [jk_row_ne _ _ (by omega)]); first | exact jk_row_same _ _ _ | exact hC1 | exact hw2 | exact hw4 | rfl)) (by first | assumption | decide | omega | exact jB_01 _ | exact jB_in _ | exact ⟨by omega, by omega⟩) dX8_correct_28 rfl ?_
        refine jk_istore4 (q := 31) dX8_correct_29 rfl rfl rfl ?_
        refine jk_aload_n (q := 32) dX8_correct_31 rfl rfl ?_
        refine jk_getA (q := 35) (k := 8) 0 0 rfl (by first | exact hy1 | exact hy2 | exact hy3 | exact ha1 | exact ha2 | exact ha3 | exact hs.1 | exact hs.2.1 _ _ rfl | assumption) (by first | exact hq1 | exact hq2 | exact hq3 | exact hb1 | exact hb2 | exact hb3 | exact hb4 | exact hs.2.2.1 _ _ rfl | assumption) rfl rfl jw_244 dX8_correct_32 rfl ?_
        refine jk_getA (q := 38) (k := 9) 11 11 rfl (by first | exact hy1 | exact hy2 | exact hy3 | exact ha1 | exact ha2 | exact ha3 | exact hs.1 | exact hs.2.1 _ _ rfl | assumption) (by first | exact hq1 | exact hq2 | exact hq3 | exact hb1 | exact hb2 | exact hb3 | exact hb4 | exact hs.2.2.1 _ _ rfl | assumption) rfl rfl jw_102 dX8_correct_35 rfl ?_
        refine jk_iload (q := 40) dX8_correct_38 rfl rfl ?_
        refine jk_dup2 (q := 41) dX8_correct_40 rfl rfl rfl ?_
        refine jk_ialdR (q := 42) (by first | exact hy1 | exact hy2 | exact hy3 | exact ha1 | exact ha2 | exact ha3 | exact hs.1 | exact hs.2.1 _ _ rfl | assumption) (by first | exact jk_row_same _ _ _ | ((repeat rewrite [jk_row_ne _ _ (by omega)]); first | exact jk_row_same _ _ _ | exact hC1 | exact hw2 | exact hw4 | rfl)) (by first | assumption | decide | omega | exact jB_01 _ | exact jB_in _ | exact ⟨by omega, by omega⟩) dX8_correct_41 rfl ?_
        refine jk_iload_n (q := 43) dX8_correct_42 rfl rfl ?_
        refine jk_aload_n (q := 44) dX8_correct_43 rfl rfl ?_
        refine jk_getA (q := 47) (k := 11) 3 3 rfl (by first | exact hy1 | exact hy2 | exact hy3 | exact ha1 | exact ha2 | exact ha3 | exact hs.1 | exact hs.2.1 _ _ rfl | assumption) (by first | exact hq1 | exact hq2 | exact hq3 | exact hb1 | exact hb2 | exact hb3 | exact hb4 | exact hs.2.2.1 _ _ rfl | assumption) rfl rfl jw_223 dX8_correct_44 rfl ?_
        refine jk_iload_n (q := 48) dX8_correct_47 rfl rfl ?_
        refine jk_ialdR (q := 49) (by first | exact hy1 | exact hy2 | exact hy3 | exact ha1 | exact ha2 | exact ha3 | exact hs.1 | exact hs.2.1 _ _ rfl | assumption) (by first | exact jk_row_same _ _ _ | ((repeat rewrite [jk_row_ne _ _ (by omega)]); first | exact jk_row_same _ _ _ | exact hC1 | exact hw2 | exact hw4 | rfl)) (by first | assumption | decide | omega | exact jB_01 _ | exact jB_in _ | exact ⟨by omega, by omega⟩) dX8_correct_48 rfl ?_
        refine jk_imul (q := 50) dX8_correct_49 rfl ?_
        refine jk_aload_n (q := 51) dX8_correct_50 rfl rfl ?_
        refine jk_getA (q := 54) (k := 8) 1 1 rfl (by first | exact hy1 | exact hy2 | exact hy3 | exact ha1 | exact ha2 | exact ha3 | exact hs.1 | exact hs.2.1 _ _ rfl | assumption) (by first | exact hq1 | exact hq2 | exact hq3 | exact hb1 | exact hb2 | exact hb3 | exact hb4 | exact hs.2.2.1 _ _ rfl | assumption) rfl rfl jw_245 dX8_correct_51 rfl ?_
        refine jk_iload (q := 56) dX8_correct_54 rfl rfl ?_
        refine jk_ialdR (q := 57) (by first | exact hy1 | exact hy2 | exact hy3 | exact ha1 | exact ha2 | exact ha3 | exact hs.1 | exact hs.2.1 _ _ rfl | assumption) (by first | exact jk_row_same _ _ _ | ((repeat rewrite [jk_row_ne _ _ (by omega)]); first | exact jk_row_same _ _ _ | exact hC1 | exact hw2 | exact hw4 | rfl)) (by first | assumption | decide | omega | exact jB_01 _ | exact jB_in _ | exact ⟨by omega, by omega⟩) dX8_correct_56 rfl ?_
        refine jk_imul (q := 58) dX8_correct_57 rfl ?_
        refine jk_iadd (q := 59) dX8_correct_58 rfl ?_
        refine jk_iastR (q := 60) (by first | exact hy1 | exact hy2 | exact hy3 | exact ha1 | exact ha2 | exact ha3 | exact hs.1 | exact hs.2.1 _ _ rfl | assumption) (by first | exact jk_row_same _ _ _ | ((repeat rewrite [jk_row_ne _ _ (by omega)]); first | exact jk_row_same _ _ _ | exact hC1 | exact hw2 | exact hw4 | rfl)) (by first | assumption | decide | omega | exact jB_01 _ | exact jB_in _ | exact ⟨by omega, by omega⟩) dX8_correct_59 rfl ?_
        refine jk_iinc3 (q := 63) dX8_correct_60 rfl rfl rfl ?_
        refine jk_goto (q := 15) dX8_correct_63 rfl ?_
        exact jk_convw (ih15 (by omega) _ (jk_set C2 (σ (w + 2) (k15 : Int)) (C2 (σ (w + 2) (k15 : Int)) + md_dir (md_err g S) * σ (w + 4) (k15 : Int) * σ1 (y + 2) (σ (w + 2) (k15 : Int)))) (by rw [h1, jk_row_row]) (fun j hj => by by_cases e : j = k15; (rw [e, jk_set_at, hout _ (fun j2 hj2 => hcN j2 k15 hj2 (by omega)), hy9, hP _ ⟨hb.1.1, by omega⟩, hb.2.1]); (have := hcN j k15 (by omega) (by omega); rw [jk_set_ne _ _ this]; exact hin j (by omega))) (fun l hne => by rw [jk_set_ne _ _ (fun q => hne k15 (by omega) q.symm)]; exact hout l (fun j hj => hne j (by omega)))) (jk_wkS rfl (jk_wkS rfl (jk_wkS rfl (jk_wkS rfl (jk_wkN jk_wk0)))))
    exact jk_convw (L15 0 (Nat.zero_le _) _ (σ (s + 20)) (jk_row_self _ _).symm (fun j hj => absurd hj (Nat.not_lt_zero j)) (fun l _ => rfl)) (jk_wkS rfl (jk_wkS rfl (jk_wkS (jk_li (by unfold md_dir; first | rw [if_pos (by omega)] | rw [if_neg (by omega)])) (jk_wkS rfl (jk_wkN jk_wk0)))))
  · refine jk_iconst (q := 8) dX8_correct_7 rfl ?_
    refine jk_goto (q := 12) dX8_correct_8 rfl ?_
    refine jk_istore2 (q := 13) dX8_correct_12 rfl rfl rfl ?_
    refine jk_iconst (q := 14) dX8_correct_13 rfl ?_
    refine jk_istore3 (q := 15) dX8_correct_14 rfl rfl rfl ?_
    have L15 : ∀ k15 : Nat, k15 ≤ c → ∀ (σ1 : jk_I) (C2 : Int → Int), (h1 : σ1 = jk_row σ (s + 20) C2) → (hin : ∀ j : Nat, j < k15 → C2 (σ (w + 2) (j : Int)) = σ (s + 20) (σ (w + 2) (j : Int)) + md_dir (md_err g S) * S (σ (w + 2) (j : Int)) * (md_parts g S) (σ (w + 2) (j : Int))) → (hout : ∀ l, (∀ j : Nat, j < k15 → σ (w + 2) (j : Int) ≠ l) → C2 l = σ (s + 20) l) → jk_J G mX8_correct 15 [some (.ref y), some (.ref w), some (jI (md_dir (md_err g S))), some (jI (k15 : Int)), none] [] n t σ1 ρ 0 0 (sh_cQ s g S σ n t ρ) jk_no := by
      refine jk_loop _ (fun k15 hk15 ih15 => ?_)
      intro σ1 C2 h1 hin hout
      have hC1 : σ1 (s + 20) = C2 := by rw [h1, jk_row_same]
      have hw0 : σ1 w = σ w := by rw [h1, jk_row_ne _ _ (by omega)]
      have hw2 : σ1 (w + 2) = σ (w + 2) := by rw [h1, jk_row_ne _ _ (by omega)]
      have hw4 : σ1 (w + 4) = σ (w + 4) := by rw [h1, jk_row_ne _ _ (by omega)]
      have hy9 : σ1 (y + 2) = σ (y + 2) := by rw [h1, jk_row_ne _ _ (by omega)]
      refine jk_iload_n (q := 16) dX8_correct_15 rfl rfl ?_
      refine jk_aload_n (q := 17) dX8_correct_16 rfl rfl ?_
      refine jk_getIR (q := 20) (k := 11) 4 4 rfl (by first | exact hy1 | exact hy2 | exact hy3 | exact ha1 | exact ha2 | exact ha3 | exact hs.1 | exact hs.2.1 _ _ rfl | assumption) (by first | exact jk_row_same _ _ _ | ((repeat rewrite [jk_row_ne _ _ (by omega)]); first | exact jk_row_same _ _ _ | exact hC1 | exact hw2 | exact hw4 | rfl)) rfl rfl jw_225 dX8_correct_17 rfl ?_
      rw [hw0, hc4]
      refine jk_icmp_ge (q := 66) (q2 := 23) dX8_correct_20 rfl rfl (by first | assumption | decide | omega | exact jB_01 _ | exact jB_in _ | exact ⟨by omega, by omega⟩) (by first | assumption | decide | omega | exact jB_01 _ | exact jB_in _ | exact ⟨by omega, by omega⟩) (fun z3 => ?_) (fun z3 => ?_)
      · exact jk_ret rfl dX8_correct_66 (by 
            have hkc : k15 = c := by omega
            subst hkc
            exact ⟨rfl, rfl, rfl, rfl, fun a a1 => by rw [h1, jk_row_ne _ _ a1], fun l hl => by
              rw [hC1]
              by_cases e : S l = 0
              · rw [hout l (fun j hj q => by have := (hcL j hj).2.2; rw [q] at this; omega), e]; simp
              · obtain ⟨j, hj, ej⟩ := hcX l hl e
                have := hin j hj
                rw [ej] at this; exact this⟩)
      · have hb := hcL k15 (by omega)
        have hb1 := hb.1
        refine jk_aload_n (q := 24) dX8_correct_23 rfl rfl ?_
        refine jk_getA (q := 27) (k := 11) 2 2 rfl (by first | exact hy1 | exact hy2 | exact hy3 | exact ha1 | exact ha2 | exact ha3 | exact hs.1 | exact hs.2.1 _ _ rfl | assumption) (by first | exact hq1 | exact hq2 | exact hq3 | exact hb1 | exact hb2 | exact hb3 | exact hb4 | exact hs.2.2.1 _ _ rfl | assumption) rfl rfl jw_221 dX8_correct_24 rfl ?_
        refine jk_iload_n (q := 28) dX8_correct_27 rfl rfl ?_
        refine jk_ialdR (q := 29) (by first | exact hy1 | exact hy2 | exact hy3 | exact ha1 | exact ha2 | exact ha3 | exact hs.1 | exact hs.2.1 _ _ rfl | assumption) (by first | exact jk_row_same _ _ _ | ((repeat rewrite [jk_row_ne _ _ (by omega)]); first | exact jk_row_same _ _ _ | exact hC1 | exact hw2 | exact hw4 | rfl)) (by first | assumption | decide | omega | exact jB_01 _ | exact jB_in _ | exact ⟨by omega, by omega⟩) dX8_correct_28 rfl ?_
        refine jk_istore4 (q := 31) dX8_correct_29 rfl rfl rfl ?_
        refine jk_aload_n (q := 32) dX8_correct_31 rfl rfl ?_
        refine jk_getA (q := 35) (k := 8) 0 0 rfl (by first | exact hy1 | exact hy2 | exact hy3 | exact ha1 | exact ha2 | exact ha3 | exact hs.1 | exact hs.2.1 _ _ rfl | assumption) (by first | exact hq1 | exact hq2 | exact hq3 | exact hb1 | exact hb2 | exact hb3 | exact hb4 | exact hs.2.2.1 _ _ rfl | assumption) rfl rfl jw_244 dX8_correct_32 rfl ?_
        refine jk_getA (q := 38) (k := 9) 11 11 rfl (by first | exact hy1 | exact hy2 | exact hy3 | exact ha1 | exact ha2 | exact ha3 | exact hs.1 | exact hs.2.1 _ _ rfl | assumption) (by first | exact hq1 | exact hq2 | exact hq3 | exact hb1 | exact hb2 | exact hb3 | exact hb4 | exact hs.2.2.1 _ _ rfl | assumption) rfl rfl jw_102 dX8_correct_35 rfl ?_
        refine jk_iload (q := 40) dX8_correct_38 rfl rfl ?_
        refine jk_dup2 (q := 41) dX8_correct_40 rfl rfl rfl ?_
        refine jk_ialdR (q := 42) (by first | exact hy1 | exact hy2 | exact hy3 | exact ha1 | exact ha2 | exact ha3 | exact hs.1 | exact hs.2.1 _ _ rfl | assumption) (by first | exact jk_row_same _ _ _ | ((repeat rewrite [jk_row_ne _ _ (by omega)]); first | exact jk_row_same _ _ _ | exact hC1 | exact hw2 | exact hw4 | rfl)) (by first | assumption | decide | omega | exact jB_01 _ | exact jB_in _ | exact ⟨by omega, by omega⟩) dX8_correct_41 rfl ?_
        refine jk_iload_n (q := 43) dX8_correct_42 rfl rfl ?_
        refine jk_aload_n (q := 44) dX8_correct_43 rfl rfl ?_
        refine jk_getA (q := 47) (k := 11) 3 3 rfl (by first | exact hy1 | exact hy2 | exact hy3 | exact ha1 | exact ha2 | exact ha3 | exact hs.1 | exact hs.2.1 _ _ rfl | assumption) (by first | exact hq1 | exact hq2 | exact hq3 | exact hb1 | exact hb2 | exact hb3 | exact hb4 | exact hs.2.2.1 _ _ rfl | assumption) rfl rfl jw_223 dX8_correct_44 rfl ?_
        refine jk_iload_n (q := 48) dX8_correct_47 rfl rfl ?_
        refine jk_ialdR (q := 49) (by first | exact hy1 | exact hy2 | exact hy3 | exact ha1 | exact ha2 | exact ha3 | exact hs.1 | exact hs.2.1 _ _ rfl | assumption) (by first | exact jk_row_same _ _ _ | ((repeat rewrite [jk_row_ne _ _ (by omega)]); first | exact jk_row_same _ _ _ | exact hC1 | exact hw2 | exact hw4 | rfl)) (by first | assumption | decide | omega | exact jB_01 _ | exact jB_in _ | exact ⟨by omega, by omega⟩) dX8_correct_48 rfl ?_
        refine jk_imul (q := 50) dX8_correct_49 rfl ?_
        refine jk_aload_n (q := 51) dX8_correct_50 rfl rfl ?_
        refine jk_getA (q := 54) (k := 8) 1 1 rfl (by first | exact hy1 | exact hy2 | exact hy3 | exact ha1 | exact ha2 | exact ha3 | exact hs.1 | exact hs.2.1 _ _ rfl | assumption) (by first | exact hq1 | exact hq2 | exact hq3 | exact hb1 | exact hb2 | exact hb3 | exact hb4 | exact hs.2.2.1 _ _ rfl | assumption) rfl rfl jw_245 dX8_correct_51 rfl ?_
        refine jk_iload (q := 56) dX8_correct_54 rfl rfl ?_
        refine jk_ialdR (q := 57) (by first | exact hy1 | exact hy2 | exact hy3 | exact ha1 | exact ha2 | exact ha3 | exact hs.1 | exact hs.2.1 _ _ rfl | assumption) (by first | exact jk_row_same _ _ _ | ((repeat rewrite [jk_row_ne _ _ (by omega)]); first | exact jk_row_same _ _ _ | exact hC1 | exact hw2 | exact hw4 | rfl)) (by first | assumption | decide | omega | exact jB_01 _ | exact jB_in _ | exact ⟨by omega, by omega⟩) dX8_correct_56 rfl ?_
        refine jk_imul (q := 58) dX8_correct_57 rfl ?_
        refine jk_iadd (q := 59) dX8_correct_58 rfl ?_
        refine jk_iastR (q := 60) (by first | exact hy1 | exact hy2 | exact hy3 | exact ha1 | exact ha2 | exact ha3 | exact hs.1 | exact hs.2.1 _ _ rfl | assumption) (by first | exact jk_row_same _ _ _ | ((repeat rewrite [jk_row_ne _ _ (by omega)]); first | exact jk_row_same _ _ _ | exact hC1 | exact hw2 | exact hw4 | rfl)) (by first | assumption | decide | omega | exact jB_01 _ | exact jB_in _ | exact ⟨by omega, by omega⟩) dX8_correct_59 rfl ?_
        refine jk_iinc3 (q := 63) dX8_correct_60 rfl rfl rfl ?_
        refine jk_goto (q := 15) dX8_correct_63 rfl ?_
        exact jk_convw (ih15 (by omega) _ (jk_set C2 (σ (w + 2) (k15 : Int)) (C2 (σ (w + 2) (k15 : Int)) + md_dir (md_err g S) * σ (w + 4) (k15 : Int) * σ1 (y + 2) (σ (w + 2) (k15 : Int)))) (by rw [h1, jk_row_row]) (fun j hj => by by_cases e : j = k15; (rw [e, jk_set_at, hout _ (fun j2 hj2 => hcN j2 k15 hj2 (by omega)), hy9, hP _ ⟨hb.1.1, by omega⟩, hb.2.1]); (have := hcN j k15 (by omega) (by omega); rw [jk_set_ne _ _ this]; exact hin j (by omega))) (fun l hne => by rw [jk_set_ne _ _ (fun q => hne k15 (by omega) q.symm)]; exact hout l (fun j hj => hne j (by omega)))) (jk_wkS rfl (jk_wkS rfl (jk_wkS rfl (jk_wkS rfl (jk_wkN jk_wk0)))))
    exact jk_convw (L15 0 (Nat.zero_le _) _ (σ (s + 20)) (jk_row_self _ _).symm (fun j hj => absurd hj (Nat.not_lt_zero j)) (fun l _ => rfl)) (jk_wkS rfl (jk_wkS rfl (jk_wkS (jk_li (by unfold md_dir; first | rw [if_pos (by omega)] | rw [if_neg (by omega)])) (jk_wkS rfl (jk_wkN jk_wk0)))))
end CS2
