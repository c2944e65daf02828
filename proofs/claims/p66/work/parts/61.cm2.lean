section CM2
/-! levels by potentials; who is reached; paths -/
def cm_cl (g T : Int → Int) (K : Int → Int) : Prop := ∀ l, 0 ≤ l ∧ l < g 1 → T l = 1 → K (g (24 + l)) = K (g (40 + l))
theorem cm_ch_cl {g T : Int → Int} {s : md_SS} : ∀ k : Nat, md_ch g T k s = false → ∀ l, 0 ≤ l ∧ l < (k : Int) → T l = 1 → s.1 (g (24 + l)) = s.1 (g (40 + l))
  | 0, _, l, hl, _ => absurd hl (by omega)
  | k + 1, h, l, hl, hT => by
    unfold md_ch at h
    rw [Bool.or_eq_false_iff] at h
    by_cases e : l = (k : Int)
    · have h1 := h.1
      rw [md_pl_same k h.2] at h1
      unfold md_passB at h1
      have h2 := of_decide_eq_true (by simpa only [Bool.not_eq_false'] using h1)
      rw [e] at hT ⊢
      rcases h2 with h2 | h2
      · rw [hT] at h2; exact absurd h2 (by decide)
      · exact h2
    · exact cm_ch_cl k h.2 l ⟨hl.1, by omega⟩ hT
def cm_lvl (g P r : Int → Int) (s : md_SS) : Prop := ∀ p, 0 ≤ p ∧ p < g 0 → s.1 p = 1 → s.2 p = P p - r p
theorem cm_lvl_pass {g T P r : Int → Int} {s : md_SS} {l : Int} (hp : cm_pt g) (hP : cm_pot g T (md_cor g) P) (hr : cm_cl g T r) (hT : T l = 0 ∨ T l = 1) (hkb : md_kb s.1) (h : cm_lvl g P r s) (hl : 0 ≤ l ∧ l < g 1) : cm_lvl g P r (md_pass g T s l) := by
  obtain ⟨p0, p1, hw, p2⟩ := hp
  obtain ⟨a1, a2, a3, -⟩ := p2 l hl
  unfold md_pass
  split
  · exact h
  · rename_i hc
    have hT1 : T l = 1 := hT.resolve_left (fun q => hc (Or.inl q))
    have hne : s.1 (g (24 + l)) ≠ s.1 (g (40 + l)) := fun q => hc (Or.inr q)
    have e1 := hP l hl hT1
    have e2 := hr l hl hT1
    have ka := hkb (g (24 + l)) ⟨a1.1, by omega⟩
    have kb := hkb (g (40 + l)) ⟨a2.1, by omega⟩
    intro p hp2 hk
    show (if s.1 (g (24 + l)) = 0 then jk_set s.2 (g (24 + l)) (s.2 (g (40 + l)) - md_cor g l) else jk_set s.2 (g (40 + l)) (s.2 (g (24 + l)) + md_cor g l)) p = _
    have hk2 : jk_set (jk_set s.1 (g (24 + l)) 1) (g (40 + l)) 1 p = 1 := hk
    by_cases h0 : s.1 (g (24 + l)) = 0
    · rw [if_pos h0]
      have hb1 : s.1 (g (40 + l)) = 1 := kb.resolve_left (fun q => hne (h0.trans q.symm))
      by_cases e : p = g (24 + l)
      · rw [e, jk_set_at, h _ a2 hb1]; omega
      · rw [jk_set_ne _ _ e]
        by_cases e3 : p = g (40 + l)
        · rw [e3]; exact h _ a2 hb1
        · rw [jk_set_ne _ _ e3, jk_set_ne _ _ e] at hk2
          exact h p hp2 hk2
    · rw [if_neg h0]
      have ha1 := ka.resolve_left h0
      by_cases e : p = g (40 + l)
      · rw [e, jk_set_at, h _ a1 ha1]; omega
      · rw [jk_set_ne _ _ e]
        by_cases e3 : p = g (24 + l)
        · rw [e3]; exact h _ a1 ha1
        · rw [jk_set_ne _ _ e, jk_set_ne _ _ e3] at hk2
          exact h p hp2 hk2
theorem cm_lvl_pl {g T P r : Int → Int} {s : md_SS} (hp : cm_pt g) (hP : cm_pot g T (md_cor g) P) (hr : cm_cl g T r) (hT : ∀ l, 0 ≤ l ∧ l < 16 → T l = 0 ∨ T l = 1) (hkb : md_kb s.1) (h : cm_lvl g P r s) : ∀ k : Nat, (k : Int) ≤ g 1 → cm_lvl g P r (md_pl g T k s)
  | 0, _ => h
  | k + 1, hk => cm_lvl_pass hp hP hr (hT _ ⟨by omega, by have := hp.2.1; omega⟩) (md_pl_kb hkb k) (cm_lvl_pl hp hP hr hT hkb h k (by omega)) ⟨by omega, by omega⟩
/-- known stays known -/
theorem cm_pass_up {g T : Int → Int} {s : md_SS} {l p : Int} (h : s.1 p = 1) : (md_pass g T s l).1 p = 1 := by
  unfold md_pass
  split
  · exact h
  · show jk_set (jk_set s.1 (g (24 + l)) 1) (g (40 + l)) 1 p = 1
    unfold jk_set
    (repeat' split) <;> first | rfl | exact h
theorem cm_pl_up {g T : Int → Int} {s : md_SS} {p : Int} (h : s.1 p = 1) : ∀ k : Nat, (md_pl g T k s).1 p = 1
  | 0 => h
  | k + 1 => cm_pass_up (cm_pl_up h k)
theorem cm_it_up {g : Int → Int} {p : Int} (h : (md_it g 0).1 p = 1) : ∀ j : Nat, (md_it g j).1 p = 1
  | 0 => h
  | j + 1 => cm_pl_up (cm_it_up h j) _
theorem cm_it_cnt {B : Int} {g : Int → Int} (hi : md_inv B g) : ∀ j : Nat, (j : Int) ≤ md_cnt (md_it g j).1 ∨ ∃ i, i < j ∧ md_ch g (md_T g) (g 1).toNat (md_it g i) = false
  | 0 => Or.inl (by
    have := jk_sum_bd2 (f := (md_it g 0).1) (a := 0) (b := 1) 10 (fun i h1 h2 => by have := md_it_kb g 0 i ⟨h1, by omega⟩; omega)
    unfold md_cnt; omega)
  | j + 1 => by
    rcases cm_it_cnt hi j with h | ⟨i, h1, h2⟩
    · cases hc : md_ch g (md_T g) (g 1).toNat (md_it g j) with
      | false => exact Or.inr ⟨j, by omega, hc⟩
      | true =>
        have h3 := md_pl_cnt hi (T := md_T g) (md_it_kb g j) (g 1).toNat (by have := hi.2.1; omega)
        rw [hc, jB_t] at h3
        refine Or.inl ?_
        show _ ≤ md_cnt (md_pl g (md_T g) (g 1).toNat (md_it g j)).1
        omega
    · exact Or.inr ⟨i, by omega, h2⟩
theorem cm_fin_cl {B : Int} {g : Int → Int} (hi : md_inv B g) : cm_cl g (md_T g) (md_fin g).1 := by
  rcases cm_it_cnt hi 11 with h | ⟨i, h1, h2⟩
  · have := md_cnt_10 (md_it_kb g 11); omega
  · have e : md_full g (md_it g i) = md_it g i := md_pl_same _ h2
    have e2 : md_fin g = md_it g i := by
      have := md_it_stab e (11 - i)
      rw [show i + (11 - i) = 11 by omega] at this
      exact this
    rw [e2]
    exact fun l hl hT => cm_ch_cl _ h2 l ⟨hl.1, by have := hi.2.1; omega⟩ hT
/-- the reference's levels are differences of a potential -/
theorem cm_fin_lvl {B : Int} {g P : Int → Int} (hi : md_inv B g) (hw : md_inw g) (hP : cm_pot g (md_T g) (md_cor g) P) : (∀ p, 0 ≤ p ∧ p < g 0 → (md_fin g).1 p = 1) ∧ ∀ p, 0 ≤ p ∧ p < g 0 → (md_fin g).2 p = P p - P (md_Ro g p) := by
  have hp := cm_pt_of hi hw
  have hT := (cm_T hp).1
  have htr := md_kr_tr hi 50
  have hr : cm_cl g (md_T g) (fun p => P (md_Ro g p)) := fun l hl hT1 => by
    rcases hT.1 l hl with h | ⟨-, -, h⟩
    · have h' : md_T g l = 0 := h
      rw [h'] at hT1; exact absurd hT1 (by decide)
    · have h' : md_Ro g (g (24 + l)) = md_Ro g (g (40 + l)) := h
      show P (md_Ro g _) = P (md_Ro g _)
      rw [h']
  have h1 : ∀ j, cm_lvl g P (fun p => P (md_Ro g p)) (md_it g j) := by
    intro j
    induction j with
    | zero =>
      intro p hp2 hk
      have hk2 : (if (0 ≤ p ∧ p < 10) ∧ md_Ro g p = p then (1 : Int) else 0) = 1 := hk
      have : md_Ro g p = p := Classical.byContradiction (fun q => by rw [if_neg (fun h => q h.2)] at hk2; exact absurd hk2 (by decide))
      show (0 : Int) = P p - P (md_Ro g p)
      rw [this]; omega
    | succ j ih => exact cm_lvl_pl hp hP hr htr.1 (md_it_kb g j) ih _ (by have := hi.2.1; omega)
  have hcl := cm_fin_cl hi
  have hk : ∀ p, 0 ≤ p ∧ p < g 0 → (md_fin g).1 p = 1 := fun p hp2 => by
    obtain ⟨q1, q2⟩ := hT.2.1 p hp2
    have e := hT.2.2.2.1 (md_Ro g p) p q1 hp2 q2 _ hcl
    rw [← e]
    exact cm_it_up (if_pos ⟨⟨q1.1, by have := hi.1; show md_Ro g p < 10; have := q1.2; have h9 : md_Ro g p < g 0 := this; omega⟩, q2⟩) 11
  exact ⟨hk, fun p hp2 => h1 11 p hp2 (hk p hp2)⟩
/-- lines of the forest are the lines by which points are reached -/
theorem cm_rch {B : Int} {g : Int → Int} {f : Int} (hi : md_inv B g) (hw : md_inw g) (hf : 0 ≤ f ∧ f < 10) {l : Int} (hl : 0 ≤ l ∧ l < g 1) (hT : md_T g l = 1) (hk : (md_reach g (md_T g) f).1 (g (24 + l)) = 1) : (md_reach g (md_T g) f).2 (g (24 + l)) = l ∨ (md_reach g (md_T g) f).2 (g (40 + l)) = l := by
  have hp := cm_pt_of hi hw
  obtain ⟨P, hP⟩ := (cm_T hp).1.2.2.1 (fun k => if k = l then 1 else 0)
  obtain ⟨⟨d, h1'⟩, -⟩ := md_rvd_rr (T := md_T g) hi hw hf 10
  have h1 : md_rvd g (md_T g) f (md_reach g (md_T g) f) d := h1'
  have hcl := md_reach_cl (T := md_T g) hi hw hf
  obtain ⟨a1, a2, -⟩ := hp.2.2.2 l hl
  have hp0 := hi.1
  refine Classical.byContradiction (fun hn => ?_)
  have hn1 : (md_reach g (md_T g) f).2 (g (24 + l)) ≠ l := fun q => hn (Or.inl q)
  have hn2 : (md_reach g (md_T g) f).2 (g (40 + l)) ≠ l := fun q => hn (Or.inr q)
  have hall : ∀ (n : Nat) (p : Int), 0 ≤ p ∧ p < 10 → (md_reach g (md_T g) f).1 p = 1 → d p ≤ (n : Int) → P p = P f := by
    intro n
    induction n with
    | zero =>
      intro p hp2 hk2 hd
      by_cases e : p = f
      · rw [e]
      · obtain ⟨-, -, oo, m3, m4, m5, -⟩ := (h1.2 p hp2 hk2).2 e
        have := (h1.2 oo m3 m4).1
        omega
    | succ n ih =>
      intro p hp2 hk2 hd
      by_cases e : p = f
      · rw [e]
      · obtain ⟨m1, m2, oo, m3, m4, m5, m6⟩ := (h1.2 p hp2 hk2).2 e
        have e9 := ih oo m3 m4 (by omega)
        have e8 := hP _ m1 m2
        have hne : (md_reach g (md_T g) f).2 p ≠ l := fun q => by
          rw [q] at m6
          rcases m6 with ⟨b1, b2⟩ | ⟨b1, b2, b3⟩
          · rw [← b1] at q; exact hn1 q
          · rw [← b2] at q; exact hn2 q
        have e8' : P (g (40 + (md_reach g (md_T g) f).2 p)) - P (g (24 + (md_reach g (md_T g) f).2 p)) = 0 := by
          have : (fun k : Int => if k = l then (1 : Int) else 0) ((md_reach g (md_T g) f).2 p) = 0 := if_neg hne
          rw [← this]; exact e8
        have m6' : (g (24 + (md_reach g (md_T g) f).2 p) = p ∧ g (40 + (md_reach g (md_T g) f).2 p) = oo) ∨ (g (24 + (md_reach g (md_T g) f).2 p) ≠ p ∧ g (40 + (md_reach g (md_T g) f).2 p) = p ∧ g (24 + (md_reach g (md_T g) f).2 p) = oo) := m6
        rcases m6' with ⟨b1, b2⟩ | ⟨b1, b2, b3⟩
        · rw [b1, b2] at e8'; omega
        · rw [b2, b3] at e8'; omega
  have q1 := (h1.2 _ ⟨a1.1, by omega⟩ hk).1
  have hkb := hcl l hl hT
  have q2 := (h1.2 (g (40 + l)) ⟨a2.1, by omega⟩ (hkb.symm.trans hk)).1
  have e1 := hall (d (g (24 + l))).toNat _ ⟨a1.1, by omega⟩ hk (by omega)
  have e2 := hall (d (g (40 + l))).toNat _ ⟨a2.1, by omega⟩ (hkb.symm.trans hk) (by omega)
  have e3 := hP l hl hT
  have : (fun k : Int => if k = l then (1 : Int) else 0) l = 1 := if_pos rfl
  rw [this] at e3
  omega
/-- how it stands at a point that is reached, other than f: its line, the next point -/
theorem cm_par {B : Int} {g : Int → Int} {f : Int} (hi : md_inv B g) (hw : md_inw g) (hf : 0 ≤ f ∧ f < 10) : ∃ d : Int → Int, ∀ p, 0 ≤ p ∧ p < 10 → (md_reach g (md_T g) f).1 p = 1 → (0 ≤ d p ∧ d p < 10) ∧ (p ≠ f → (0 ≤ (md_reach g (md_T g) f).2 p ∧ (md_reach g (md_T g) f).2 p < g 1) ∧ md_T g ((md_reach g (md_T g) f).2 p) = 1 ∧ (g (24 + (md_reach g (md_T g) f).2 p) = p ∨ g (40 + (md_reach g (md_T g) f).2 p) = p) ∧ (0 ≤ md_st1 g (md_reach g (md_T g) f).2 p ∧ md_st1 g (md_reach g (md_T g) f).2 p < 10) ∧ (md_reach g (md_T g) f).1 (md_st1 g (md_reach g (md_T g) f).2 p) = 1 ∧ d (md_st1 g (md_reach g (md_T g) f).2 p) < d p) := by
  obtain ⟨⟨d, h1'⟩, -⟩ := md_rvd_rr (T := md_T g) hi hw hf 10
  have h1 : md_rvd g (md_T g) f (md_reach g (md_T g) f) d := h1'
  refine ⟨d, fun p hp hk => ?_⟩
  have hc := md_cnt_10 h1.1.2.2
  obtain ⟨k1, k2⟩ := h1.2 p hp hk
  refine ⟨⟨k1.1, by omega⟩, fun hpf => ?_⟩
  obtain ⟨m1, m2, oo, m3, m4, m5, m6⟩ := k2 hpf
  have hst : md_st1 g (md_reach g (md_T g) f).2 p = oo := by
    unfold md_st1
    rcases m6 with ⟨a1, a2⟩ | ⟨a1, a2, a3⟩
    · exact (if_pos a1).trans a2
    · exact (if_neg a1).trans a3
  rw [hst]
  refine ⟨m1, m2, ?_, m3, m4, m5⟩
  rcases m6 with ⟨a1, a2⟩ | ⟨a1, a2, a3⟩
  · exact Or.inl a1
  · exact Or.inr a2
/-- f is not reached by a line -/
theorem cm_rb_f {B : Int} {g : Int → Int} (hi : md_inv B g) (T : Int → Int) (f : Int) (hf : 0 ≤ f ∧ f < 10) : (md_reach g T f).2 f = -1 := by
  have h0 : ∀ s : md_SS, md_kb s.1 → s.1 f = 1 ∧ s.2 f = -1 → ∀ l, 0 ≤ l ∧ l < 16 → md_kb (md_rp g T s l).1 ∧ (md_rp g T s l).1 f = 1 ∧ (md_rp g T s l).2 f = -1 := by
    intro s hb hs l hl
    refine ⟨md_rp_kb hb l, ?_⟩
    have ka := hb _ (md_inv_ln hi hl).1
    unfold md_rp
    split
    · rename_i hc
      refine ⟨?_, ?_⟩
      · show jk_set (jk_set s.1 (g (24 + l)) 1) (g (40 + l)) 1 f = 1
        unfold jk_set; (repeat' split) <;> first | rfl | exact hs.1
      · show jk_set s.2 (if s.1 (g (24 + l)) = 0 then g (24 + l) else g (40 + l)) l f = -1
        have : ¬ f = (if s.1 (g (24 + l)) = 0 then g (24 + l) else g (40 + l)) := by
          split
          · rename_i h; intro q; rw [← q, hs.1] at h; exact absurd h (by decide)
          · rename_i h; intro q
            have h2 := hc.2
            rw [← q, hs.1, ka.resolve_left h] at h2
            exact h2 rfl
        rw [jk_set_ne _ _ this]; exact hs.2
    · exact hs
  have h1 : ∀ k : Nat, k ≤ 16 → ∀ s : md_SS, md_kb s.1 → s.1 f = 1 ∧ s.2 f = -1 → md_kb (md_rl g T k s).1 ∧ (md_rl g T k s).1 f = 1 ∧ (md_rl g T k s).2 f = -1 := by
    intro k
    induction k with
    | zero => exact fun _ s h9 h => ⟨h9, h⟩
    | succ k ih => exact fun hk s h9 h => h0 _ (ih (by omega) s h9 h).1 (ih (by omega) s h9 h).2 _ ⟨by omega, by omega⟩
  have h2 : ∀ j, md_kb (md_rr g T f j).1 ∧ (md_rr g T f j).1 f = 1 ∧ (md_rr g T f j).2 f = -1 := by
    intro j
    induction j with
    | zero => exact ⟨md_r0_kb f, by show (if 0 ≤ f ∧ f < 10 then (if f = f then (1 : Int) else 0) else 0) = 1; rw [if_pos hf, if_pos rfl], by show (if 0 ≤ f ∧ f < 10 then (-1 : Int) else 0) = -1; rw [if_pos hf]⟩
    | succ j ih => exact h1 _ (by have := hi.2.1; omega) _ ih.1 ih.2
  exact (h2 10).2.2
end CM2
