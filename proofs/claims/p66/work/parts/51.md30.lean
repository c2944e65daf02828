section MD30
theorem md_cnt_set {K : Int → Int} {i v : Int} (hi : 0 ≤ i ∧ i < 10) : md_cnt (jk_set K i v) = md_cnt K + (v - K i) := by
  unfold md_cnt
  rw [jk_sum_set, if_pos ⟨hi.1, by omega⟩]
theorem md_cnt_10 {K : Int → Int} (h : md_kb K) : md_cnt K ≤ 10 := by
  have h2 := jk_sum_bd2 (f := K) (a := 0) (b := 1) 10 (fun i h1 h2 => by have := h i ⟨h1, by omega⟩; omega)
  unfold md_cnt
  omega
/-- what is reached is reached by growing steps -/
def md_rvd (g T : Int → Int) (f : Int) (s : md_SS) (d : Int → Int) : Prop := (d f = 0 ∧ s.1 f = 1 ∧ md_kb s.1) ∧ ∀ p, 0 ≤ p ∧ p < 10 → s.1 p = 1 → (0 ≤ d p ∧ d p < md_cnt s.1) ∧ (p ≠ f → (0 ≤ s.2 p ∧ s.2 p < g 1) ∧ T (s.2 p) = 1 ∧ ∃ o, (0 ≤ o ∧ o < 10) ∧ s.1 o = 1 ∧ d o < d p ∧ ((g (24 + s.2 p) = p ∧ g (40 + s.2 p) = o) ∨ (g (24 + s.2 p) ≠ p ∧ g (40 + s.2 p) = p ∧ g (24 + s.2 p) = o)))
theorem md_rvd_add {g T : Int → Int} {f : Int} {s : md_SS} {d : Int → Int} (hf : 0 ≤ f ∧ f < 10) (h : md_rvd g T f s d) {x y l : Int} (hx : 0 ≤ x ∧ x < 10) (hy : 0 ≤ y ∧ y < 10) (hx0 : s.1 x = 0) (hy1 : s.1 y = 1) (hl : 0 ≤ l ∧ l < g 1) (hT : T l = 1) (he : (g (24 + l) = x ∧ g (40 + l) = y) ∨ (g (24 + l) ≠ x ∧ g (40 + l) = x ∧ g (24 + l) = y)) : md_rvd g T f (jk_set s.1 x 1, jk_set s.2 x l) (jk_set d x (md_cnt s.1)) ∧ md_cnt (jk_set s.1 x 1) = md_cnt s.1 + 1 := by
  obtain ⟨⟨h1, h2, h3⟩, h4⟩ := h
  have hfx : f ≠ x := fun e => by rw [e, hx0] at h2; exact absurd h2 (by decide)
  have hyx : y ≠ x := fun e => by rw [e, hx0] at hy1; exact absurd hy1 (by decide)
  have hc : md_cnt (jk_set s.1 x 1) = md_cnt s.1 + 1 := by rw [md_cnt_set hx, hx0]; omega
  have hc0 := (h4 f hf h2).1
  refine ⟨⟨⟨by rw [jk_set_ne _ _ hfx]; exact h1, by show jk_set s.1 x 1 f = 1; rw [jk_set_ne _ _ hfx]; exact h2, md_set_kb h3 x⟩, fun p hp hp1 => ?_⟩, hc⟩
  show (0 ≤ jk_set d x (md_cnt s.1) p ∧ jk_set d x (md_cnt s.1) p < md_cnt (jk_set s.1 x 1)) ∧ (p ≠ f → (0 ≤ jk_set s.2 x l p ∧ jk_set s.2 x l p < g 1) ∧ T (jk_set s.2 x l p) = 1 ∧ ∃ o, (0 ≤ o ∧ o < 10) ∧ jk_set s.1 x 1 o = 1 ∧ jk_set d x (md_cnt s.1) o < jk_set d x (md_cnt s.1) p ∧ ((g (24 + jk_set s.2 x l p) = p ∧ g (40 + jk_set s.2 x l p) = o) ∨ (g (24 + jk_set s.2 x l p) ≠ p ∧ g (40 + jk_set s.2 x l p) = p ∧ g (24 + jk_set s.2 x l p) = o)))
  rw [hc]
  by_cases hpx : p = x
  · subst hpx
    rw [jk_set_at, jk_set_at]
    have hy4 := (h4 y hy hy1).1
    refine ⟨⟨by omega, by omega⟩, fun _ => ⟨hl, hT, y, hy, ?_, ?_, he⟩⟩
    · rw [jk_set_ne _ _ hyx]; exact hy1
    · rw [jk_set_ne _ _ hyx]; exact hy4.2
  · have hp2 : s.1 p = 1 := by
      have : jk_set s.1 x 1 p = 1 := hp1
      rwa [jk_set_ne _ _ hpx] at this
    obtain ⟨k1, k2⟩ := h4 p hp hp2
    rw [jk_set_ne _ _ hpx, jk_set_ne _ _ hpx]
    refine ⟨⟨k1.1, by omega⟩, fun hpf => ?_⟩
    obtain ⟨m1, m2, oo, m3, m4, m5, m6⟩ := k2 hpf
    have hox : oo ≠ x := fun e => by rw [e, hx0] at m4; exact absurd m4 (by decide)
    refine ⟨m1, m2, oo, m3, ?_, ?_, m6⟩
    · rw [jk_set_ne _ _ hox]; exact m4
    · rw [jk_set_ne _ _ hox]; exact m5
/-- one line: nothing, or one more -/
theorem md_rvd_rp {B : Int} {g T : Int → Int} {f : Int} {s : md_SS} {d : Int → Int} (hi : md_inv B g) (hw : md_inw g) (hf : 0 ≤ f ∧ f < 10) (h : md_rvd g T f s d) {l : Int} (hl : 0 ≤ l ∧ l < g 1) : (md_rp g T s l = s ∧ (T l = 1 → s.1 (g (24 + l)) = s.1 (g (40 + l)))) ∨ (md_cnt (md_rp g T s l).1 = md_cnt s.1 + 1 ∧ ∃ d2, md_rvd g T f (md_rp g T s l) d2) := by
  have i1 := hi.2.1
  obtain ⟨l1, l2, -⟩ := md_inv_ln hi (l := l) ⟨by omega, by omega⟩
  have hne := (hw l hl).2.2.2
  unfold md_rp
  split
  · rename_i hc
    right
    have ka := h.1.2.2 _ l1
    have kb := h.1.2.2 _ l2
    by_cases h0 : s.1 (g (24 + l)) = 0
    · have hb1 : s.1 (g (40 + l)) = 1 := by rcases kb with kb | kb; exact absurd (h0.trans kb.symm) hc.2; exact kb
      rw [if_pos h0]
      have e1 : jk_set (jk_set s.1 (g (24 + l)) 1) (g (40 + l)) 1 = jk_set s.1 (g (24 + l)) 1 := by
        conv => rhs; rw [← md_set_self (jk_set s.1 (g (24 + l)) 1) (g (40 + l)), jk_set_ne s.1 _ (fun e => hne e.symm), hb1]
      rw [e1]
      have h9 := md_rvd_add hf h l1 l2 h0 hb1 hl hc.1 (Or.inl ⟨rfl, rfl⟩)
      exact ⟨h9.2, _, h9.1⟩
    · have ha1 : s.1 (g (24 + l)) = 1 := ka.resolve_left h0
      have hb0 : s.1 (g (40 + l)) = 0 := by rcases kb with kb | kb; exact kb; exact absurd (ha1.trans kb.symm) hc.2
      rw [if_neg h0]
      have e1 : jk_set s.1 (g (24 + l)) 1 = s.1 := by
        conv => rhs; rw [← md_set_self s.1 (g (24 + l)), ha1]
      rw [e1]
      have h9 := md_rvd_add hf h l2 l1 hb0 ha1 hl hc.1 (Or.inr ⟨hne, rfl, rfl⟩)
      exact ⟨h9.2, _, h9.1⟩
  · rename_i hc
    exact Or.inl ⟨rfl, fun hT => Classical.byContradiction (fun e => hc ⟨hT, e⟩)⟩
/-- a round: nothing and closed, or more -/
theorem md_rvd_rl {B : Int} {g T : Int → Int} {f : Int} {s : md_SS} {d : Int → Int} (hi : md_inv B g) (hw : md_inw g) (hf : 0 ≤ f ∧ f < 10) (h : md_rvd g T f s d) : ∀ k : Nat, (k : Int) ≤ g 1 → (md_rl g T k s = s ∧ ∀ l, 0 ≤ l ∧ l < (k : Int) → T l = 1 → s.1 (g (24 + l)) = s.1 (g (40 + l))) ∨ (md_cnt s.1 + 1 ≤ md_cnt (md_rl g T k s).1 ∧ ∃ d2, md_rvd g T f (md_rl g T k s) d2)
  | 0, _ => Or.inl ⟨rfl, fun l hl => absurd hl (by omega)⟩
  | k + 1, hk => by
    rcases md_rvd_rl hi hw hf h k (by omega) with ⟨h1, h2⟩ | ⟨h1, d2, h2⟩
    · unfold md_rl
      rw [h1]
      rcases md_rvd_rp hi hw hf h (l := (k : Int)) ⟨by omega, by omega⟩ with ⟨h3, h4⟩ | ⟨h3, h4⟩
      · refine Or.inl ⟨h3, fun l hl hT => ?_⟩
        by_cases e : l = (k : Int)
        · subst e; exact h4 hT
        · exact h2 l ⟨hl.1, by omega⟩ hT
      · exact Or.inr ⟨by omega, h4⟩
    · right
      unfold md_rl
      rcases md_rvd_rp hi hw hf h2 (l := (k : Int)) ⟨by omega, by omega⟩ with ⟨h3, h4⟩ | ⟨h3, h4⟩
      · rw [h3]; exact ⟨h1, d2, h2⟩
      · exact ⟨by omega, h4⟩
theorem md_rvd_0 {g T : Int → Int} {f : Int} (hf : 0 ≤ f ∧ f < 10) : md_rvd g T f (md_r0 f) (fun _ => 0) ∧ md_cnt (md_r0 f).1 = 1 := by
  have e1 : (md_r0 f).1 = jk_set (fun _ => 0) f 1 := by
    funext p
    unfold md_r0 jk_set
    grind
  have hc : md_cnt (md_r0 f).1 = 1 := by
    rw [e1, md_cnt_set hf]; rfl
  refine ⟨⟨⟨rfl, by rw [e1, jk_set_at], md_r0_kb f⟩, fun p hp hp1 => ⟨⟨Int.le_refl 0, by rw [hc]; exact (show (0 : Int) < 1 by decide)⟩, fun hpf => ?_⟩⟩, hc⟩
  rw [e1, jk_set_ne _ _ hpf] at hp1
  exact absurd hp1 (by decide)
theorem md_rvd_rr {B : Int} {g T : Int → Int} {f : Int} (hi : md_inv B g) (hw : md_inw g) (hf : 0 ≤ f ∧ f < 10) : ∀ j : Nat, (∃ d, md_rvd g T f (md_rr g T f j) d) ∧ ((j : Int) + 1 ≤ md_cnt (md_rr g T f j).1 ∨ (md_rl g T (g 1).toNat (md_rr g T f j) = md_rr g T f j ∧ ∀ l, 0 ≤ l ∧ l < g 1 → T l = 1 → (md_rr g T f j).1 (g (24 + l)) = (md_rr g T f j).1 (g (40 + l))))
  | 0 => ⟨⟨_, (md_rvd_0 hf).1⟩, Or.inl (by show _ ≤ md_cnt (md_r0 f).1; rw [(md_rvd_0 (g := g) (T := T) hf).2]; decide)⟩
  | j + 1 => by
    obtain ⟨⟨d, h1⟩, h2⟩ := md_rvd_rr (T := T) hi hw hf j
    have i1 := hi.2.1
    unfold md_rr
    rcases md_rvd_rl hi hw hf h1 (g 1).toNat (by omega) with ⟨h3, h4⟩ | ⟨h3, h4⟩
    · rw [h3]
      exact ⟨⟨d, h1⟩, Or.inr ⟨h3, fun l hl => h4 l ⟨hl.1, by omega⟩⟩⟩
    · refine ⟨h4, ?_⟩
      rcases h2 with h2 | h2
      · exact Or.inl (by omega)
      · rw [h2.1] at h3; omega
/-- what is reached is closed -/
theorem md_reach_cl {B : Int} {g T : Int → Int} {f : Int} (hi : md_inv B g) (hw : md_inw g) (hf : 0 ≤ f ∧ f < 10) : ∀ l, 0 ≤ l ∧ l < g 1 → T l = 1 → (md_reach g T f).1 (g (24 + l)) = (md_reach g T f).1 (g (40 + l)) := by
  obtain ⟨⟨d, h1⟩, h2⟩ := md_rvd_rr (T := T) hi hw hf 10
  have h3 := md_cnt_10 h1.1.2.2
  rcases h2 with h2 | h2
  · exact absurd h2 (by omega)
  · exact h2.2
def md_st1 (g rb : Int → Int) (p : Int) : Int := if g (24 + rb p) = p then g (40 + rb p) else g (24 + rb p)
theorem md_wlk_sh (g rb : Int → Int) (p : Int) : ∀ i : Nat, (md_wlk g rb p (i + 1)).1 = (md_wlk g rb (md_st1 g rb p) i).1
  | 0 => rfl
  | i + 1 => by
    show md_st1 g rb (md_wlk g rb p (i + 1)).1 = md_st1 g rb (md_wlk g rb (md_st1 g rb p) i).1
    rw [md_wlk_sh g rb p i]
theorem md_path {g T : Int → Int} {f : Int} {s : md_SS} {d : Int → Int} (h1 : g 1 ≤ 16) (h : md_rvd g T f s d) : ∀ (n : Nat) (p : Int), 0 ≤ p ∧ p < 10 → s.1 p = 1 → d p ≤ (n : Int) → n ≤ 10 → ∃ J, J ≤ n ∧ md_ok g s.2 p f J := by
  have h0 : ∀ p n, n ≤ 10 → p = f → ∃ J, J ≤ n ∧ md_ok g s.2 p f J := fun p n _ e => ⟨0, Nat.zero_le _, Nat.zero_le _, e, fun i hi => absurd hi (Nat.not_lt_zero i)⟩
  intro n
  induction n with
  | zero =>
    intro p hp hp1 hd hn
    refine h0 p 0 hn (Classical.byContradiction (fun e => ?_))
    obtain ⟨k1, k2⟩ := h.2 p hp hp1
    obtain ⟨-, -, oo, m3, m4, m5, -⟩ := k2 e
    have := (h.2 oo m3 m4).1
    omega
  | succ n ih =>
    intro p hp hp1 hd hn
    by_cases e : p = f
    · exact h0 p _ hn e
    · obtain ⟨k1, k2⟩ := h.2 p hp hp1
      obtain ⟨m1, m2, oo, m3, m4, m5, m6⟩ := k2 e
      obtain ⟨J, hJ, hok⟩ := ih oo m3 m4 (by omega) (by omega)
      have hst : md_st1 g s.2 p = oo := by
        unfold md_st1
        rcases m6 with ⟨a1, a2⟩ | ⟨a1, a2, a3⟩
        · rw [if_pos a1]; exact a2
        · rw [if_neg a1]; exact a3
      refine ⟨J + 1, by omega, by omega, by rw [md_wlk_sh, hst]; exact hok.2.1, fun i hi => ?_⟩
      cases i with
      | zero => exact ⟨e, hp, by show 0 ≤ s.2 p; omega, by show s.2 p < 16; omega⟩
      | succ i =>
        rw [md_wlk_sh, hst]
        exact hok.2.2 i (by omega)
/-- every closing line can be gone around -/
theorem md_loops_ok {B : Int} {g : Int → Int} (hi : md_inv B g) (hw : md_inw g) : md_loops g := fun l hl hc => by
  have i1 := hi.2.1
  obtain ⟨l1, l2, -⟩ := md_inv_ln hi (l := l) ⟨by omega, by omega⟩
  have hcn := md_clo_cnn hi hw hl hc
  have hcl := md_reach_cl (T := md_T g) (f := g (24 + l)) hi hw l1
  obtain ⟨⟨d, h1⟩, -⟩ := md_rvd_rr (T := md_T g) hi hw l1 10
  have hb1 : (md_reach g (md_T g) (g (24 + l))).1 (g (40 + l)) = 1 := (hcn _ hcl).symm.trans h1.1.2.1
  have h3 := md_cnt_10 h1.1.2.2
  have h4 := (h1.2 _ l2 hb1).1
  obtain ⟨J, -, hJ⟩ := md_path i1.2 h1 10 _ l2 hb1 (by omega) (by decide)
  exact ⟨J, hJ⟩
theorem md_hall2 {B : Int} {g : Int → Int} (h : md_all B g) (hB : B + 2635 ≤ 1100000) : ∀ P, md_pb P → ∀ k : Nat, k ≤ 31 → md_inv (B + 2635) (md_gk P g k) ∧ md_inw (md_gk P g k) ∧ md_loops (md_gk P g k) ∧ md_zf 240 (md_gk P g k) := md_hall h hB (fun _ _ h => md_loops_ok h.1 h.2.1)
end MD30
