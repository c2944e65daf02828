section MD4
abbrev md_SS : Type := (Int → Int) × (Int → Int)
theorem jk_sum_set (f : Int → Int) (i v : Int) : ∀ k : Nat, jk_sum (jk_set f i v) k = jk_sum f k + (if 0 ≤ i ∧ i < (k : Int) then v - f i else 0)
  | 0 => by rw [if_neg (by omega)]; rfl
  | k + 1 => by
    show jk_sum (jk_set f i v) k + jk_set f i v (k : Int) = jk_sum f k + f (k : Int) + _
    rw [jk_sum_set f i v k]
    unfold jk_set
    by_cases h : (k : Int) = i
    · subst h; rw [if_pos rfl, if_neg (by omega), if_pos (by omega)]; omega
    · rw [if_neg h]
      by_cases h2 : 0 ≤ i ∧ i < (k : Int)
      · rw [if_pos h2, if_pos (by omega)]; omega
      · rw [if_neg h2, if_neg (by omega)]; omega
def md_li (g : Int → Int) (L : Int) : Nat → md_SS → md_SS
  | 0, s => s
  | k + 1, s => if g (56 + (k : Int)) = L then md_take g (md_li g L k s) (k : Int) else md_li g L k s
def md_kr (g : Int → Int) : Nat → md_SS
  | 0 => (fun _ => 0, fun p => if 0 ≤ p ∧ p < 10 then p else 0)
  | L + 1 => md_li g ((L : Int) + 1) (g 1).toNat (md_kr g L)
/-- the lines of the forest, and the roots -/
def md_T (g : Int → Int) : Int → Int := (md_kr g 50).1
def md_Ro (g : Int → Int) : Int → Int := (md_kr g 50).2
theorem md_in_tr {B : Int} {g : Int → Int} (hi : md_inv B g) {L : Int} {s : md_SS} (h : md_tr s) : ∀ k : Nat, k ≤ 16 → md_tr (md_li g L k s)
  | 0, _ => h
  | k + 1, hk => by
    unfold md_li
    split
    · exact md_take_tr hi (md_in_tr hi h k (by omega)) ⟨by omega, by omega⟩
    · exact md_in_tr hi h k (by omega)
theorem md_kr_tr {B : Int} {g : Int → Int} (hi : md_inv B g) : ∀ L : Nat, md_tr (md_kr g L)
  | 0 => ⟨fun _ _ => Or.inl rfl, fun p hp => by show 0 ≤ (if 0 ≤ p ∧ p < 10 then p else 0) ∧ (if 0 ≤ p ∧ p < 10 then p else 0) < 10; rw [if_pos hp]; exact hp⟩
  | L + 1 => md_in_tr hi (md_kr_tr hi L) _ (by have := hi.2.1; omega)
def md_pl (g T : Int → Int) : Nat → md_SS → md_SS
  | 0, s => s
  | k + 1, s => md_pass g T (md_pl g T k s) (k : Int)
def md_ch (g T : Int → Int) : Nat → md_SS → Bool
  | 0, _ => false
  | k + 1, s => md_passB g T (md_pl g T k s) (k : Int) || md_ch g T k s
def md_full (g : Int → Int) (s : md_SS) : md_SS := md_pl g (md_T g) (g 1).toNat s
def md_it (g : Int → Int) : Nat → md_SS
  | 0 => (fun p => if (0 ≤ p ∧ p < 10) ∧ md_Ro g p = p then 1 else 0, fun _ => 0)
  | j + 1 => md_full g (md_it g j)
/-- who has a level, and the levels -/
def md_fin (g : Int → Int) : md_SS := md_it g 11
def md_kb (K : Int → Int) : Prop := ∀ p, 0 ≤ p ∧ p < 10 → K p = 0 ∨ K p = 1
def md_cnt (K : Int → Int) : Int := jk_sum K 10
theorem md_set_kb {K : Int → Int} (h : md_kb K) (i : Int) : md_kb (jk_set K i 1) := fun p hp => by
  unfold jk_set; split
  · exact Or.inr rfl
  · exact h p hp
theorem md_pass_kb {g T : Int → Int} {s : md_SS} (h : md_kb s.1) (l : Int) : md_kb (md_pass g T s l).1 := by
  unfold md_pass; split
  · exact h
  · exact md_set_kb (md_set_kb h _) _
theorem md_pl_kb {g T : Int → Int} {s : md_SS} (h : md_kb s.1) : ∀ k, md_kb (md_pl g T k s).1
  | 0 => h
  | k + 1 => md_pass_kb (md_pl_kb h k) _
theorem md_it_kb (g : Int → Int) : ∀ j, md_kb (md_it g j).1
  | 0 => fun p _ => by
    show (if _ then _ else _) = _ ∨ (if _ then _ else _) = _
    split
    · exact Or.inr rfl
    · exact Or.inl rfl
  | j + 1 => md_pl_kb (md_it_kb g j) _
theorem md_pass_cnt {B : Int} {g T : Int → Int} (hi : md_inv B g) {s : md_SS} (h : md_kb s.1) {l : Int} (hl : 0 ≤ l ∧ l < 16) : md_cnt (md_pass g T s l).1 = md_cnt s.1 + jB (md_passB g T s l) := by
  obtain ⟨a, b, -⟩ := md_inv_ln hi hl
  have ha := h _ a
  have hb := h _ b
  unfold md_pass md_passB
  by_cases hc : T l = 0 ∨ s.1 (g (24 + l)) = s.1 (g (40 + l))
  · rw [if_pos hc, decide_eq_true hc]; show _ = _ + jB false; rw [jB_f]; omega
  · rw [if_neg hc, decide_eq_false hc]
    show md_cnt (jk_set (jk_set s.1 (g (24 + l)) 1) (g (40 + l)) 1) = _ + jB true
    unfold md_cnt
    rw [jk_sum_set, jk_sum_set, if_pos (by omega), if_pos (by omega), jB_t]
    have hne : ¬ g (40 + l) = g (24 + l) := fun e => hc (Or.inr (by rw [e]))
    have e : jk_set s.1 (g (24 + l)) 1 (g (40 + l)) = s.1 (g (40 + l)) := if_neg hne
    rw [e]
    omega
theorem md_pl_cnt {B : Int} {g T : Int → Int} (hi : md_inv B g) {s : md_SS} (h : md_kb s.1) : ∀ k : Nat, k ≤ 16 → md_cnt s.1 + jB (md_ch g T k s) ≤ md_cnt (md_pl g T k s).1
  | 0, _ => by show _ + jB false ≤ _; rw [jB_f]; exact Int.le_of_eq (Int.add_zero _)
  | k + 1, hk => by
    have h1 := md_pl_cnt hi h (T := T) k (by omega)
    have h2 := md_pass_cnt hi (T := T) (md_pl_kb (g := g) (T := T) h k) (l := (k : Int)) ⟨by omega, by omega⟩
    show _ + jB (md_passB g T (md_pl g T k s) (k : Int) || md_ch g T k s) ≤ md_cnt (md_pass g T (md_pl g T k s) (k : Int)).1
    rw [h2]
    cases md_passB g T (md_pl g T k s) (k : Int) <;> cases hq : md_ch g T k s <;> rw [hq] at h1 <;> simp only [Bool.or_true, Bool.or_false, jB_t, jB_f] at h1 ⊢ <;> omega
theorem md_pass_same {g T : Int → Int} {s : md_SS} {l : Int} (h : md_passB g T s l = false) : md_pass g T s l = s := by
  unfold md_passB at h
  unfold md_pass
  rw [if_pos (of_decide_eq_true (by simpa only [Bool.not_eq_false'] using h))]
theorem md_pl_same {g T : Int → Int} {s : md_SS} : ∀ k : Nat, md_ch g T k s = false → md_pl g T k s = s
  | 0, _ => rfl
  | k + 1, h => by
    unfold md_ch at h
    rw [Bool.or_eq_false_iff] at h
    have e := md_pl_same k h.2
    unfold md_pl
    rw [md_pass_same h.1, e]
theorem md_it_stab {g : Int → Int} {j : Nat} (h : md_full g (md_it g j) = md_it g j) : ∀ d, md_it g (j + d) = md_it g j
  | 0 => rfl
  | d + 1 => by show md_full g (md_it g (j + d)) = _; rw [md_it_stab h d]; exact h
/-- the heap behind the model's search -/
def md_gr (σ : jk_I) (m : Nat) (g : Int → Int) : jk_I := jk_row (jk_row (jk_row (jk_row σ (m + 14) (md_T g)) (m + 16) (md_Ro g)) (m + 20) (md_fin g).1) (m + 18) (md_fin g).2
/-- the scratch rows are 0 beyond their ends -/
def md_z (σ : jk_I) (m : Nat) : Prop := ∀ p, p < 0 ∨ 16 ≤ p → σ (m + 14) p = 0 ∧ σ (m + 22) p = 0 ∧ σ (m + 24) p = 0
def md_z10 (σ : jk_I) (m : Nat) : Prop := ∀ p, p < 0 ∨ 10 ≤ p → σ (m + 16) p = 0 ∧ σ (m + 18) p = 0 ∧ σ (m + 20) p = 0 ∧ σ (m + 26) p = 0
theorem jk_fill_all {r0 f : Int → Int} {k : Nat} (h : ∀ p, p < 0 ∨ (k : Int) ≤ p → r0 p = 0) : jk_fill r0 f k = fun p => if 0 ≤ p ∧ p < (k : Int) then f p else 0 := by
  funext p; unfold jk_fill
  by_cases hp : 0 ≤ p ∧ p < (k : Int)
  · rw [if_pos hp, if_pos hp]
  · rw [if_neg hp, if_neg hp]; exact h p (by omega)
theorem jk_sum_cong {f f2 : Int → Int} : ∀ k : Nat, (∀ i, 0 ≤ i → i < (k : Int) → f i = f2 i) → jk_sum f k = jk_sum f2 k
  | 0, _ => rfl
  | k + 1, h => by
    show jk_sum f k + f (k : Int) = jk_sum f2 k + f2 (k : Int)
    rw [jk_sum_cong k (fun i h1 h2 => h i h1 (by omega)), h (k : Int) (by omega) (by omega)]
theorem jk_sum_nn (f : Int → Int) (h : ∀ i, 0 ≤ f i) : ∀ k : Nat, 0 ≤ jk_sum f k
  | 0 => Int.le_refl _
  | k + 1 => by show 0 ≤ jk_sum f k + f (k : Int); have := jk_sum_nn f h k; have := h (k : Int); omega
theorem c_X13_grows {G : jk_G} {n : Nat} {t : jk_T} {σ : jk_I} {ρ : jk_P} {m : Nat} {g : Int → Int} {B : Int} (hm : md_at t ρ m) (hg : σ (m + 2) = g) (hi : md_inv B g) (hz : md_z σ m) (hz1 : md_z10 σ m) : jk_K G yX13_grows mX13_grows 0 0 [.ref m] n t σ ρ (jk_q none n t (md_gr σ m g) ρ) jk_no := by
  refine jk_entryB (ls := [some (.ref m), none, none]) jm_X13_grows.1 rfl rfl rfl ?_
  obtain ⟨i0, i1, -⟩ := id hi
  refine jk_iconst (q := 1) dX13_grows_0 rfl ?_
  refine jk_istore1 (q := 2) dX13_grows_1 rfl rfl rfl ?_
  have L2 : ∀ k2 : Nat, k2 ≤ 10 → ∀ (σ1 : jk_I), (hs1 : σ1 = jk_row σ (m + 16) (jk_fill (σ (m + 16)) (fun p => p) k2)) → jk_J G mX13_grows 2 [some (.ref m), some (jI (k2 : Int)), none] [] n t σ1 ρ 0 0 (jk_q none n t (md_gr σ m g) ρ) jk_no := by
    refine jk_loop _ (fun k2 hk2 ih2 => ?_)
    intro σ1 hs1
    have hr1 : σ1 (m + 16) = jk_fill (σ (m + 16)) (fun p => p) k2 := by rw [hs1, jk_row_same]
    refine jk_iload_n (q := 3) dX13_grows_2 rfl rfl ?_
    refine jk_bipush (q := 5) (y := 10) dX13_grows_3 rfl (by decide) ?_
    refine jk_icmp_ge (q := 21) (q2 := 8) dX13_grows_5 rfl rfl (by first | decide | omega | exact jB_01 _ | exact jB_in _) (by first | decide | omega | exact jB_01 _ | exact jB_in _) (fun h1 => ?_) (fun h1 => ?_)
    · refine jk_iconst (q := 22) dX13_grows_21 rfl ?_
      refine jk_istore1 (q := 23) dX13_grows_22 rfl rfl rfl ?_
      have L23 : ∀ k23 : Nat, k23 ≤ 16 → ∀ (σ1 : jk_I), (hs1 : σ1 = jk_row (jk_row σ (m + 16) (fun p => if 0 ≤ p ∧ p < 10 then p else 0)) (m + 14) (jk_fill (σ (m + 14)) (fun _ => 0) k23)) → jk_J G mX13_grows 23 [some (.ref m), some (jI (k23 : Int)), none] [] n t σ1 ρ 0 0 (jk_q none n t (md_gr σ m g) ρ) jk_no := by
        refine jk_loop _ (fun k23 hk23 ih23 => ?_)
        intro σ1 hs1
        have hr1 : σ1 (m + 14) = jk_fill (σ (m + 14)) (fun _ => 0) k23 := by rw [hs1, jk_row_same]
        refine jk_iload_n (q := 24) dX13_grows_23 rfl rfl ?_
        refine jk_bipush (q := 26) (y := 16) dX13_grows_24 rfl (by decide) ?_
        refine jk_icmp_ge (q := 42) (q2 := 29) dX13_grows_26 rfl rfl (by first | decide | omega | exact jB_01 _ | exact jB_in _) (by first | decide | omega | exact jB_01 _ | exact jB_in _) (fun h2 => ?_) (fun h2 => ?_)
        · refine jk_iconst (q := 43) dX13_grows_42 rfl ?_
          refine jk_istore1 (q := 44) dX13_grows_43 rfl rfl rfl ?_
          have L44 : ∀ k44 : Nat, k44 ≤ 50 → ∀ (σ1 : jk_I), (hs1 : σ1 = jk_row (jk_row σ (m + 14) (md_kr g k44).1) (m + 16) (md_kr g k44).2) → jk_J G mX13_grows 44 [some (.ref m), some (jI ((k44 : Int) + 1)), none] [] n t σ1 ρ 0 0 (jk_q none n t (md_gr σ m g) ρ) jk_no := by
            refine jk_loop _ (fun k44 hk44 ih44 => ?_)
            intro σ1 hs1
            have hg1 : σ1 (m + 2) = g := by rw [hs1, jk_row_ne _ _ (by omega), jk_row_ne _ _ (by omega)]; exact hg
            have hk1 : σ1 (m + 14) = (md_kr g k44).1 := by rw [hs1, jk_row_ne _ _ (by omega), jk_row_same]
            have hr1 : σ1 (m + 16) = (md_kr g k44).2 := by rw [hs1, jk_row_same]
            refine jk_iload_n (q := 45) dX13_grows_44 rfl rfl ?_
            refine jk_bipush (q := 47) (y := 50) dX13_grows_45 rfl (by decide) ?_
            refine jk_icmp_gt (q := 92) (q2 := 50) dX13_grows_47 rfl rfl (by first | decide | omega | exact jB_01 _ | exact jB_in _) (by first | decide | omega | exact jB_01 _ | exact jB_in _) (fun h3 => ?_) (fun h3 => ?_)
            · refine jk_iconst (q := 93) dX13_grows_92 rfl ?_
              refine jk_istore1 (q := 94) dX13_grows_93 rfl rfl rfl ?_
              have L94 : ∀ k94 : Nat, k94 ≤ 10 → ∀ (σ1 : jk_I), (hs1 : σ1 = jk_row (jk_row (jk_row (jk_row σ (m + 14) (md_T g)) (m + 16) (md_Ro g)) (m + 20) (jk_fill (σ (m + 20)) (fun p => if md_Ro g p = p then 1 else 0) k94)) (m + 18) (jk_fill (σ (m + 18)) (fun _ => 0) k94)) → jk_J G mX13_grows 94 [some (.ref m), some (jI (k94 : Int)), none] [] n t σ1 ρ 0 0 (jk_q none n t (md_gr σ m g) ρ) jk_no := by
                refine jk_loop _ (fun k94 hk94 ih94 => ?_)
                intro σ1 hs1
                have hr1 : σ1 (m + 16) = md_Ro g := by rw [hs1, jk_row_ne _ _ (by omega), jk_row_ne _ _ (by omega), jk_row_same]
                have hn1 : σ1 (m + 20) = jk_fill (σ (m + 20)) (fun p => if md_Ro g p = p then 1 else 0) k94 := by rw [hs1, jk_row_ne _ _ (by omega), jk_row_same]
                have hv1 : σ1 (m + 18) = jk_fill (σ (m + 18)) (fun _ => 0) k94 := by rw [hs1, jk_row_same]
                have htr := (md_kr_tr hi 50).2
                refine jk_iload_n (q := 95) dX13_grows_94 rfl rfl ?_
                refine jk_bipush (q := 97) (y := 10) dX13_grows_95 rfl (by decide) ?_
                refine jk_icmp_ge (q := 134) (q2 := 100) dX13_grows_97 rfl rfl (by first | decide | omega | exact jB_01 _ | exact jB_in _) (by first | decide | omega | exact jB_01 _ | exact jB_in _) (fun h4 => ?_) (fun h4 => ?_)
                · refine jk_iconst (q := 135) dX13_grows_134 rfl ?_
                  refine jk_istore1 (q := 136) dX13_grows_135 rfl rfl rfl ?_
                  have L136 : ∀ k136 : Nat, k136 ≤ 11 → ∀ (mo : Bool) (σ1 : jk_I), (hs1 : σ1 = jk_row (jk_row (jk_row (jk_row σ (m + 14) (md_T g)) (m + 16) (md_Ro g)) (m + 20) (md_it g k136).1) (m + 18) (md_it g k136).2) → (hm1 : mo = true → (k136 : Int) ≤ md_cnt (md_it g k136).1) → (hm2 : mo = false → md_full g (md_it g k136) = md_it g k136) → jk_J G mX13_grows 136 [some (.ref m), some (jI (jB mo)), none] [] n t σ1 ρ 0 0 (jk_q none n t (md_gr σ m g) ρ) jk_no := by
                    refine jk_loop _ (fun k136 hk136 ih136 => ?_)
                    intro mo σ1 hs1 hm1 hm2
                    have hg1 : σ1 (m + 2) = g := by rw [hs1, jk_row_ne _ _ (by omega), jk_row_ne _ _ (by omega), jk_row_ne _ _ (by omega), jk_row_ne _ _ (by omega)]; exact hg
                    have hk1 : σ1 (m + 14) = md_T g := by rw [hs1, jk_row_ne _ _ (by omega), jk_row_ne _ _ (by omega), jk_row_ne _ _ (by omega), jk_row_same]
                    have hn1 : σ1 (m + 20) = (md_it g k136).1 := by rw [hs1, jk_row_ne _ _ (by omega), jk_row_same]
                    have hv1 : σ1 (m + 18) = (md_it g k136).2 := by rw [hs1, jk_row_same]
                    have hc10 : md_cnt (md_it g k136).1 ≤ 10 := by
                      have := jk_sum_bd (f := fun p => if 0 ≤ p ∧ p < 10 then (md_it g k136).1 p else 0) (a := 0) (b := 1) (fun p => by split; have := md_it_kb g k136 p (by assumption); omega; omega) 10
                      have e := jk_sum_cong (f := (md_it g k136).1) (f2 := fun p => if 0 ≤ p ∧ p < 10 then (md_it g k136).1 p else 0) 10 (fun p h1 h2 => (if_pos (show 0 ≤ p ∧ p < 10 from ⟨h1, h2⟩)).symm)
                      unfold md_cnt; rw [e]; omega
                    refine jk_iload_n (q := 137) dX13_grows_136 rfl rfl ?_
                    refine jk_ifB_eq (q := 181) (q2 := 140) dX13_grows_137 rfl rfl (fun h5 => ?_) (fun h5 => ?_)
                    · exact jk_ret rfl dX13_grows_181 (by refine ⟨rfl, rfl, rfl, ?_, rfl⟩; rw [hs1]; unfold md_gr md_fin; have h9 := md_it_stab (hm2 (by assumption)) (11 - k136); rw [show k136 + (11 - k136) = 11 by omega] at h9; rw [h9])
                    · refine jk_iconst (q := 141) dX13_grows_140 rfl ?_
                      refine jk_istore1 (q := 142) dX13_grows_141 rfl rfl rfl ?_
                      refine jk_iconst (q := 143) dX13_grows_142 rfl ?_
                      refine jk_istore2 (q := 144) dX13_grows_143 rfl rfl rfl ?_
                      have L144 : ∀ k144 : Nat, k144 ≤ (g 1).toNat → ∀ (σ1 : jk_I), (hs1 : σ1 = jk_row (jk_row (jk_row (jk_row σ (m + 14) (md_T g)) (m + 16) (md_Ro g)) (m + 20) (md_pl g (md_T g) k144 (md_it g k136)).1) (m + 18) (md_pl g (md_T g) k144 (md_it g k136)).2) → jk_J G mX13_grows 144 [some (.ref m), some (jI (jB (md_ch g (md_T g) k144 (md_it g k136)))), some (jI (k144 : Int))] [] n t σ1 ρ 0 0 (jk_q none n t (md_gr σ m g) ρ) jk_no := by
                        refine jk_loop _ (fun k144 hk144 ih144 => ?_)
                        intro σ1 hs1
                        have hg1 : σ1 (m + 2) = g := by rw [hs1, jk_row_ne _ _ (by omega), jk_row_ne _ _ (by omega), jk_row_ne _ _ (by omega), jk_row_ne _ _ (by omega)]; exact hg
                        have hk1 : σ1 (m + 14) = md_T g := by rw [hs1, jk_row_ne _ _ (by omega), jk_row_ne _ _ (by omega), jk_row_ne _ _ (by omega), jk_row_same]
                        have hn1 : σ1 (m + 20) = (md_pl g (md_T g) k144 (md_it g k136)).1 := by rw [hs1, jk_row_ne _ _ (by omega), jk_row_same]
                        have hv1 : σ1 (m + 18) = (md_pl g (md_T g) k144 (md_it g k136)).2 := by rw [hs1, jk_row_same]
                        obtain ⟨i0, i1, -⟩ := id hi
                        have hkb1 := md_pl_kb (g := g) (T := md_T g) (md_it_kb g k136) k144
                        refine jk_iload_n (q := 145) dX13_grows_144 rfl rfl ?_
                        refine jk_aload_n (q := 146) dX13_grows_145 rfl rfl ?_
                        refine jk_getA (q := 149) (k := 13) 0 0 rfl (by first | exact hm.1 | exact hm.2.1 _ _ rfl | assumption) (by first | exact hm.2.2 _ _ rfl | assumption) rfl rfl jw_1848 dX13_grows_146 rfl ?_
                        refine jk_iconst (q := 150) dX13_grows_149 rfl ?_
                        refine jk_ialdR (q := 151) (by first | exact hm.1 | exact hm.2.1 _ _ rfl | assumption) (by first | exact jk_row_same _ _ _ | exact hg1 | exact hk1 | exact hn1 | exact hv1 | (rewrite [jk_row_ne _ _ (by omega)]; first | exact jk_row_same _ _ _ | exact hg1 | exact hk1 | exact hn1 | exact hv1 | (rewrite [jk_row_ne _ _ (by omega)]; first | exact jk_row_same _ _ _ | exact hg1 | exact hk1 | exact hn1 | exact hv1 | (rewrite [jk_row_ne _ _ (by omega)]; first | exact jk_row_same _ _ _ | exact hg1 | exact hk1 | exact hn1 | exact hv1 | (rewrite [jk_row_ne _ _ (by omega)]; first | exact hg1 | exact hk1 | exact hn1 | exact hv1 | rfl))))) (by first | decide | omega | exact jB_01 _ | exact jB_in _) dX13_grows_150 rfl ?_
                        refine jk_icmp_ge (q := 178) (q2 := 154) dX13_grows_151 rfl rfl (by first | decide | omega | exact jB_01 _ | exact jB_in _) (by first | decide | omega | exact jB_01 _ | exact jB_in _) (fun h6 => ?_) (fun h6 => ?_)
                        · refine jk_goto (q := 136) dX13_grows_178 rfl ?_
                          refine jk_convw (ih136 (by have := hm1 (by assumption); omega) (md_ch g (md_T g) (g 1).toNat (md_it g k136)) σ1 ?_ ?_ ?_) (jk_wkS rfl (jk_wkS (jk_li (by rw [show k144 = (g 1).toNat by omega])) (jk_wkN jk_wk0)))
                          · rw [hs1, show k144 = (g 1).toNat by omega]; rfl
                          · intro hc
                            have h9 := md_pl_cnt hi (T := md_T g) (md_it_kb g k136) (g 1).toNat (by omega)
                            rw [hc, jB_t] at h9
                            show _ ≤ md_cnt (md_pl g (md_T g) (g 1).toNat (md_it g k136)).1
                            have := hm1 (by assumption)
                            omega
                          · intro hc
                            have h9 := md_pl_same _ hc
                            show md_full g (md_full g (md_it g k136)) = md_full g (md_it g k136)
                            unfold md_full; rw [h9, h9]
                        · refine jk_aload_n (q := 155) dX13_grows_154 rfl rfl ?_
                          refine jk_iload_n (q := 156) dX13_grows_155 rfl rfl ?_
                          refine jk_cV1p (q := 159) (c_X13_passes hm hg1 hi hk1 hn1 hv1 hkb1 (md_kr_tr hi 50).1 ⟨by omega, by omega⟩) jm_X13_passes jw_2048 rfl (by first | exact hm.1 | exact hm.2.1 _ _ rfl | assumption) rfl rfl rfl dX13_grows_156 rfl ?_
                          refine jk_ifB_ne (q := 166) (q2 := 162) dX13_grows_159 rfl rfl (fun h7 => ?_) (fun h7 => ?_)
                          · refine jk_iconst (q := 167) dX13_grows_166 rfl ?_
                            refine jk_goto (q := 171) dX13_grows_167 rfl ?_
                            refine jk_istore1 (q := 172) dX13_grows_171 rfl rfl rfl ?_
                            refine jk_iinc2 (q := 175) dX13_grows_172 rfl rfl rfl ?_
                            refine jk_goto (q := 144) dX13_grows_175 rfl ?_
                            refine jk_convl (ih144 (by omega) _ ?_) (jk_loc rfl (jk_loc (jk_li ?_) rfl))
                            · rw [hs1, jk_rr _ _ _ _ _ (by omega)]; rfl
                            · simp [md_ch, *, jB]
                          · refine jk_iload_n (q := 163) dX13_grows_162 rfl rfl ?_
                            refine jk_ifB_eq (q := 170) (q2 := 166) dX13_grows_163 rfl rfl (fun h8 => ?_) (fun h8 => ?_)
                            · refine jk_iconst (q := 171) dX13_grows_170 rfl ?_
                              refine jk_istore1 (q := 172) dX13_grows_171 rfl rfl rfl ?_
                              refine jk_iinc2 (q := 175) dX13_grows_172 rfl rfl rfl ?_
                              refine jk_goto (q := 144) dX13_grows_175 rfl ?_
                              refine jk_convl (ih144 (by omega) _ ?_) (jk_loc rfl (jk_loc (jk_li ?_) rfl))
                              · rw [hs1, jk_rr _ _ _ _ _ (by omega)]; rfl
                              · simp [md_ch, *, jB]
                            · refine jk_iconst (q := 167) dX13_grows_166 rfl ?_
                              refine jk_goto (q := 171) dX13_grows_167 rfl ?_
                              refine jk_istore1 (q := 172) dX13_grows_171 rfl rfl rfl ?_
                              refine jk_iinc2 (q := 175) dX13_grows_172 rfl rfl rfl ?_
                              refine jk_goto (q := 144) dX13_grows_175 rfl ?_
                              refine jk_convl (ih144 (by omega) _ ?_) (jk_loc rfl (jk_loc (jk_li ?_) rfl))
                              · rw [hs1, jk_rr _ _ _ _ _ (by omega)]; rfl
                              · simp [md_ch, *, jB]
                      exact L144 0 (Nat.zero_le _) σ1 hs1
                  refine L136 0 (Nat.zero_le _) true σ1 ?_ (fun _ => ?_) (fun h => absurd h (by decide))
                  · rw [hs1, show k94 = 10 by omega, jk_fill_all (fun p hp => (hz1 p hp).2.2.1), jk_fill_all (fun p hp => (hz1 p hp).2.1)]
                    show _ = jk_row (jk_row _ _ (fun p => if (0 ≤ p ∧ p < 10) ∧ md_Ro g p = p then 1 else 0)) _ (fun _ => 0)
                    congr 2
                    · funext p
                      by_cases h1 : 0 ≤ p ∧ p < 10 <;> by_cases h2 : md_Ro g p = p <;> simp [h1, h2]
                    · funext p; split <;> rfl
                  · have := jk_sum_nn (md_it g 0).1 (fun p => by show (0 : Int) ≤ (if (0 ≤ p ∧ p < 10) ∧ md_Ro g p = p then 1 else 0); split <;> decide) 10
                    exact this
                · have hro : 0 ≤ md_Ro g k94 ∧ md_Ro g k94 < 10 := (md_kr_tr hi 50).2 _ ⟨by omega, by omega⟩
                  refine jk_aload_n (q := 101) dX13_grows_100 rfl rfl ?_
                  refine jk_getA (q := 104) (k := 13) 16 16 rfl (by first | exact hm.1 | exact hm.2.1 _ _ rfl | assumption) (by first | exact hm.2.2 _ _ rfl | assumption) rfl rfl jw_1864 dX13_grows_101 rfl ?_
                  refine jk_iload_n (q := 105) dX13_grows_104 rfl rfl ?_
                  refine jk_aload_n (q := 106) dX13_grows_105 rfl rfl ?_
                  refine jk_getA (q := 109) (k := 13) 14 14 rfl (by first | exact hm.1 | exact hm.2.1 _ _ rfl | assumption) (by first | exact hm.2.2 _ _ rfl | assumption) rfl rfl jw_1862 dX13_grows_106 rfl ?_
                  refine jk_iload_n (q := 110) dX13_grows_109 rfl rfl ?_
                  refine jk_ialdR (q := 111) (by first | exact hm.1 | exact hm.2.1 _ _ rfl | assumption) (by first | exact jk_row_same _ _ _ | exact hr1 | exact hn1 | exact hv1 | (rewrite [jk_row_ne _ _ (by omega)]; first | exact jk_row_same _ _ _ | exact hr1 | exact hn1 | exact hv1 | (rewrite [jk_row_ne _ _ (by omega)]; first | exact jk_row_same _ _ _ | exact hr1 | exact hn1 | exact hv1 | (rewrite [jk_row_ne _ _ (by omega)]; first | exact jk_row_same _ _ _ | exact hr1 | exact hn1 | exact hv1 | (rewrite [jk_row_ne _ _ (by omega)]; first | exact hr1 | exact hn1 | exact hv1 | rfl))))) (by first | decide | omega | exact jB_01 _ | exact jB_in _) dX13_grows_110 rfl ?_
                  refine jk_iload_n (q := 112) dX13_grows_111 rfl rfl ?_
                  refine jk_icmp_ne (q := 119) (q2 := 115) dX13_grows_112 rfl rfl (by first | decide | omega | exact jB_01 _ | exact jB_in _) (by first | decide | omega | exact jB_01 _ | exact jB_in _) (fun h9 => ?_) (fun h9 => ?_)
                  · refine jk_iconst (q := 120) dX13_grows_119 rfl ?_
                    refine jk_zastR (q := 121) (by first | exact hm.1 | exact hm.2.1 _ _ rfl | assumption) (by first | exact jk_row_same _ _ _ | exact hr1 | exact hn1 | exact hv1 | (rewrite [jk_row_ne _ _ (by omega)]; first | exact jk_row_same _ _ _ | exact hr1 | exact hn1 | exact hv1 | (rewrite [jk_row_ne _ _ (by omega)]; first | exact jk_row_same _ _ _ | exact hr1 | exact hn1 | exact hv1 | (rewrite [jk_row_ne _ _ (by omega)]; first | exact jk_row_same _ _ _ | exact hr1 | exact hn1 | exact hv1 | (rewrite [jk_row_ne _ _ (by omega)]; first | exact hr1 | exact hn1 | exact hv1 | rfl))))) (by first | decide | omega | exact jB_01 _ | exact jB_in _) (by first | decide | omega | exact jB_01 _ | exact jB_in _) dX13_grows_120 rfl ?_
                    refine jk_aload_n (q := 122) dX13_grows_121 rfl rfl ?_
                    refine jk_getA (q := 125) (k := 13) 15 15 rfl (by first | exact hm.1 | exact hm.2.1 _ _ rfl | assumption) (by first | exact hm.2.2 _ _ rfl | assumption) rfl rfl jw_1863 dX13_grows_122 rfl ?_
                    refine jk_iload_n (q := 126) dX13_grows_125 rfl rfl ?_
                    refine jk_iconst (q := 127) dX13_grows_126 rfl ?_
                    refine jk_iastR (q := 128) (by first | exact hm.1 | exact hm.2.1 _ _ rfl | assumption) (by first | exact jk_row_same _ _ _ | exact hr1 | exact hn1 | exact hv1 | (rewrite [jk_row_ne _ _ (by omega)]; first | exact jk_row_same _ _ _ | exact hr1 | exact hn1 | exact hv1 | (rewrite [jk_row_ne _ _ (by omega)]; first | exact jk_row_same _ _ _ | exact hr1 | exact hn1 | exact hv1 | (rewrite [jk_row_ne _ _ (by omega)]; first | exact jk_row_same _ _ _ | exact hr1 | exact hn1 | exact hv1 | (rewrite [jk_row_ne _ _ (by omega)]; first | exact hr1 | exact hn1 | exact hv1 | rfl))))) (by first | decide | omega | exact jB_01 _ | exact jB_in _) dX13_grows_127 rfl ?_
                    refine jk_iinc1 (q := 131) dX13_grows_128 rfl rfl rfl ?_
                    refine jk_goto (q := 94) dX13_grows_131 rfl ?_
                    refine ih94 (by omega) _ ?_
                    rw [hs1, jk_rr _ _ _ _ _ (by omega), jk_fill_S _ _ _ _ rfl, jk_fill_S _ _ _ _ (by first | rw [if_pos (by assumption)] | rw [if_neg (by assumption)])]
                  · refine jk_iconst (q := 116) dX13_grows_115 rfl ?_
                    refine jk_goto (q := 120) dX13_grows_116 rfl ?_
                    refine jk_zastR (q := 121) (by first | exact hm.1 | exact hm.2.1 _ _ rfl | assumption) (by first | exact jk_row_same _ _ _ | exact hr1 | exact hn1 | exact hv1 | (rewrite [jk_row_ne _ _ (by omega)]; first | exact jk_row_same _ _ _ | exact hr1 | exact hn1 | exact hv1 | (rewrite [jk_row_ne _ _ (by omega)]; first | exact jk_row_same _ _ _ | exact hr1 | exact hn1 | exact hv1 | (rewrite [jk_row_ne _ _ (by omega)]; first | exact jk_row_same _ _ _ | exact hr1 | exact hn1 | exact hv1 | (rewrite [jk_row_ne _ _ (by omega)]; first | exact hr1 | exact hn1 | exact hv1 | rfl))))) (by first | decide | omega | exact jB_01 _ | exact jB_in _) (by first | decide | omega | exact jB_01 _ | exact jB_in _) dX13_grows_120 rfl ?_
                    refine jk_aload_n (q := 122) dX13_grows_121 rfl rfl ?_
                    refine jk_getA (q := 125) (k := 13) 15 15 rfl (by first | exact hm.1 | exact hm.2.1 _ _ rfl | assumption) (by first | exact hm.2.2 _ _ rfl | assumption) rfl rfl jw_1863 dX13_grows_122 rfl ?_
                    refine jk_iload_n (q := 126) dX13_grows_125 rfl rfl ?_
                    refine jk_iconst (q := 127) dX13_grows_126 rfl ?_
                    refine jk_iastR (q := 128) (by first | exact hm.1 | exact hm.2.1 _ _ rfl | assumption) (by first | exact jk_row_same _ _ _ | exact hr1 | exact hn1 | exact hv1 | (rewrite [jk_row_ne _ _ (by omega)]; first | exact jk_row_same _ _ _ | exact hr1 | exact hn1 | exact hv1 | (rewrite [jk_row_ne _ _ (by omega)]; first | exact jk_row_same _ _ _ | exact hr1 | exact hn1 | exact hv1 | (rewrite [jk_row_ne _ _ (by omega)]; first | exact jk_row_same _ _ _ | exact hr1 | exact hn1 | exact hv1 | (rewrite [jk_row_ne _ _ (by omega)]; first | exact hr1 | exact hn1 | exact hv1 | rfl))))) (by first | decide | omega | exact jB_01 _ | exact jB_in _) dX13_grows_127 rfl ?_
                    refine jk_iinc1 (q := 131) dX13_grows_128 rfl rfl rfl ?_
                    refine jk_goto (q := 94) dX13_grows_131 rfl ?_
                    refine ih94 (by omega) _ ?_
                    rw [hs1, jk_rr _ _ _ _ _ (by omega), jk_fill_S _ _ _ _ rfl, jk_fill_S _ _ _ _ (by first | rw [if_pos (by assumption)] | rw [if_neg (by assumption)])]
              refine L94 0 (Nat.zero_le _) σ1 ?_
              rw [hs1, jk_fill_0, jk_fill_0, show k44 = 50 by omega]
              exact (jk_rs2 _ ((jk_row_ne _ _ (by omega)).trans (jk_row_ne _ _ (by omega))) ((jk_row_ne _ _ (by omega)).trans (jk_row_ne _ _ (by omega)))).symm
            · refine jk_iconst (q := 51) dX13_grows_50 rfl ?_
              refine jk_istore2 (q := 52) dX13_grows_51 rfl rfl rfl ?_
              have L52 : ∀ k52 : Nat, k52 ≤ (g 1).toNat → ∀ (σ1 : jk_I), (hs1 : σ1 = jk_row (jk_row σ (m + 14) (md_li g ((k44 : Int) + 1) k52 (md_kr g k44)).1) (m + 16) (md_li g ((k44 : Int) + 1) k52 (md_kr g k44)).2) → jk_J G mX13_grows 52 [some (.ref m), some (jI ((k44 : Int) + 1)), some (jI (k52 : Int))] [] n t σ1 ρ 0 0 (jk_q none n t (md_gr σ m g) ρ) jk_no := by
                refine jk_loop _ (fun k52 hk52 ih52 => ?_)
                intro σ1 hs1
                have hg1 : σ1 (m + 2) = g := by rw [hs1, jk_row_ne _ _ (by omega), jk_row_ne _ _ (by omega)]; exact hg
                have hk1 : σ1 (m + 14) = (md_li g ((k44 : Int) + 1) k52 (md_kr g k44)).1 := by rw [hs1, jk_row_ne _ _ (by omega), jk_row_same]
                have hr1 : σ1 (m + 16) = (md_li g ((k44 : Int) + 1) k52 (md_kr g k44)).2 := by rw [hs1, jk_row_same]
                obtain ⟨i0, i1, -⟩ := id hi
                have htr : md_tr (md_li g ((k44 : Int) + 1) k52 (md_kr g k44)) := md_in_tr hi (md_kr_tr hi k44) k52 (by omega)
                refine jk_iload_n (q := 53) dX13_grows_52 rfl rfl ?_
                refine jk_aload_n (q := 54) dX13_grows_53 rfl rfl ?_
                refine jk_getA (q := 57) (k := 13) 0 0 rfl (by first | exact hm.1 | exact hm.2.1 _ _ rfl | assumption) (by first | exact hm.2.2 _ _ rfl | assumption) rfl rfl jw_1848 dX13_grows_54 rfl ?_
                refine jk_iconst (q := 58) dX13_grows_57 rfl ?_
                refine jk_ialdR (q := 59) (by first | exact hm.1 | exact hm.2.1 _ _ rfl | assumption) (by first | exact jk_row_same _ _ _ | exact hg1 | exact hk1 | exact hr1 | (rewrite [jk_row_ne _ _ (by omega)]; first | exact jk_row_same _ _ _ | exact hg1 | exact hk1 | exact hr1 | (rewrite [jk_row_ne _ _ (by omega)]; first | exact jk_row_same _ _ _ | exact hg1 | exact hk1 | exact hr1 | (rewrite [jk_row_ne _ _ (by omega)]; first | exact jk_row_same _ _ _ | exact hg1 | exact hk1 | exact hr1 | (rewrite [jk_row_ne _ _ (by omega)]; first | exact hg1 | exact hk1 | exact hr1 | rfl))))) (by first | decide | omega | exact jB_01 _ | exact jB_in _) dX13_grows_58 rfl ?_
                refine jk_icmp_ge (q := 86) (q2 := 62) dX13_grows_59 rfl rfl (by first | decide | omega | exact jB_01 _ | exact jB_in _) (by first | decide | omega | exact jB_01 _ | exact jB_in _) (fun h10 => ?_) (fun h10 => ?_)
                · refine jk_iinc1 (q := 89) dX13_grows_86 rfl rfl rfl ?_
                  refine jk_goto (q := 44) dX13_grows_89 rfl ?_
                  refine jk_convw (ih44 (by omega) σ1 ?_) (jk_wkS rfl (jk_wkS rfl (jk_wkN jk_wk0)))
                  rw [hs1, show k52 = (g 1).toNat by omega]
                  rfl
                · obtain ⟨e1, e2, e3, -⟩ := md_inv_ln hi (l := (k52 : Int)) ⟨by omega, by omega⟩
                  refine jk_aload_n (q := 63) dX13_grows_62 rfl rfl ?_
                  refine jk_getA (q := 66) (k := 13) 0 0 rfl (by first | exact hm.1 | exact hm.2.1 _ _ rfl | assumption) (by first | exact hm.2.2 _ _ rfl | assumption) rfl rfl jw_1848 dX13_grows_63 rfl ?_
                  refine jk_bipush (q := 68) (y := 56) dX13_grows_66 rfl (by decide) ?_
                  refine jk_iload_n (q := 69) dX13_grows_68 rfl rfl ?_
                  refine jk_iadd (q := 70) dX13_grows_69 rfl ?_
                  refine jk_ialdR (q := 71) (by first | exact hm.1 | exact hm.2.1 _ _ rfl | assumption) (by first | exact jk_row_same _ _ _ | exact hg1 | exact hk1 | exact hr1 | (rewrite [jk_row_ne _ _ (by omega)]; first | exact jk_row_same _ _ _ | exact hg1 | exact hk1 | exact hr1 | (rewrite [jk_row_ne _ _ (by omega)]; first | exact jk_row_same _ _ _ | exact hg1 | exact hk1 | exact hr1 | (rewrite [jk_row_ne _ _ (by omega)]; first | exact jk_row_same _ _ _ | exact hg1 | exact hk1 | exact hr1 | (rewrite [jk_row_ne _ _ (by omega)]; first | exact hg1 | exact hk1 | exact hr1 | rfl))))) (by first | decide | omega | exact jB_01 _ | exact jB_in _) dX13_grows_70 rfl ?_
                  refine jk_iload_n (q := 72) dX13_grows_71 rfl rfl ?_
                  refine jk_icmp_ne (q := 80) (q2 := 75) dX13_grows_72 rfl rfl (by first | decide | omega | exact jB_01 _ | exact jB_in _) (by first | decide | omega | exact jB_01 _ | exact jB_in _) (fun h11 => ?_) (fun h11 => ?_)
                  · refine jk_iinc2 (q := 83) dX13_grows_80 rfl rfl rfl ?_
                    refine jk_goto (q := 52) dX13_grows_83 rfl ?_
                    refine ih52 (by omega) _ ?_
                    first
                      | (rw [hs1, jk_rr _ _ _ _ _ (by omega)]; simp only [md_li]; rw [if_pos (by assumption)])
                      | (rw [hs1]; simp only [md_li]; rw [if_neg (by assumption)])
                  · refine jk_aload_n (q := 76) dX13_grows_75 rfl rfl ?_
                    refine jk_iload_n (q := 77) dX13_grows_76 rfl rfl ?_
                    refine jk_cV1v (q := 80) (c_X13_takesLine hm hg1 hi hr1 htr.2 hk1 ⟨by omega, by omega⟩) jm_X13_takesLine jw_2040 rfl (by first | exact hm.1 | exact hm.2.1 _ _ rfl | assumption) rfl rfl rfl dX13_grows_77 rfl ?_
                    refine jk_iinc2 (q := 83) dX13_grows_80 rfl rfl rfl ?_
                    refine jk_goto (q := 52) dX13_grows_83 rfl ?_
                    refine ih52 (by omega) _ ?_
                    first
                      | (rw [hs1, jk_rr _ _ _ _ _ (by omega)]; simp only [md_li]; rw [if_pos (by assumption)])
                      | (rw [hs1]; simp only [md_li]; rw [if_neg (by assumption)])
              exact L52 0 (Nat.zero_le _) σ1 hs1
          refine L44 0 (Nat.zero_le _) σ1 ?_
          rw [hs1, show k23 = 16 by omega, jk_fill_all (fun p hp => (hz p hp).1), jk_row_comm _ _ _ (by omega)]
          show _ = jk_row (jk_row σ _ (fun _ => 0)) _ _
          congr 2
          funext p
          split <;> rfl
        · refine jk_aload_n (q := 30) dX13_grows_29 rfl rfl ?_
          refine jk_getA (q := 33) (k := 13) 13 13 rfl (by first | exact hm.1 | exact hm.2.1 _ _ rfl | assumption) (by first | exact hm.2.2 _ _ rfl | assumption) rfl rfl jw_1861 dX13_grows_30 rfl ?_
          refine jk_iload_n (q := 34) dX13_grows_33 rfl rfl ?_
          refine jk_iconst (q := 35) dX13_grows_34 rfl ?_
          refine jk_iastR (q := 36) (by first | exact hm.1 | exact hm.2.1 _ _ rfl | assumption) (by first | exact jk_row_same _ _ _ | exact hr1 | (rewrite [jk_row_ne _ _ (by omega)]; first | exact jk_row_same _ _ _ | exact hr1 | (rewrite [jk_row_ne _ _ (by omega)]; first | exact jk_row_same _ _ _ | exact hr1 | (rewrite [jk_row_ne _ _ (by omega)]; first | exact jk_row_same _ _ _ | exact hr1 | (rewrite [jk_row_ne _ _ (by omega)]; first | exact hr1 | rfl))))) (by first | decide | omega | exact jB_01 _ | exact jB_in _) dX13_grows_35 rfl ?_
          refine jk_iinc1 (q := 39) dX13_grows_36 rfl rfl rfl ?_
          refine jk_goto (q := 23) dX13_grows_39 rfl ?_
          refine ih23 (by omega) _ ?_
          rw [hs1, jk_row_row, jk_fill_S _ _ _ _ rfl]
      refine L23 0 (Nat.zero_le _) σ1 ?_
      rw [hs1, jk_fill_0, show k2 = 10 by omega, jk_fill_all (fun p hp => (hz1 p hp).1)]
      exact ((jk_row_comm _ _ _ (by omega)).trans (by rw [jk_row_self]; rfl)).symm
    · refine jk_aload_n (q := 9) dX13_grows_8 rfl rfl ?_
      refine jk_getA (q := 12) (k := 13) 14 14 rfl (by first | exact hm.1 | exact hm.2.1 _ _ rfl | assumption) (by first | exact hm.2.2 _ _ rfl | assumption) rfl rfl jw_1862 dX13_grows_9 rfl ?_
      refine jk_iload_n (q := 13) dX13_grows_12 rfl rfl ?_
      refine jk_iload_n (q := 14) dX13_grows_13 rfl rfl ?_
      refine jk_iastR (q := 15) (by first | exact hm.1 | exact hm.2.1 _ _ rfl | assumption) (by first | exact jk_row_same _ _ _ | exact hr1 | (rewrite [jk_row_ne _ _ (by omega)]; first | exact jk_row_same _ _ _ | exact hr1 | (rewrite [jk_row_ne _ _ (by omega)]; first | exact jk_row_same _ _ _ | exact hr1 | (rewrite [jk_row_ne _ _ (by omega)]; first | exact jk_row_same _ _ _ | exact hr1 | (rewrite [jk_row_ne _ _ (by omega)]; first | exact hr1 | rfl))))) (by first | decide | omega | exact jB_01 _ | exact jB_in _) dX13_grows_14 rfl ?_
      refine jk_iinc1 (q := 18) dX13_grows_15 rfl rfl rfl ?_
      refine jk_goto (q := 2) dX13_grows_18 rfl ?_
      refine ih2 (by omega) _ ?_
      rw [hs1, jk_row_row, jk_fill_S _ _ _ _ rfl]
  exact L2 0 (Nat.zero_le _) σ (by rw [jk_fill_0, jk_row_self])
end MD4
