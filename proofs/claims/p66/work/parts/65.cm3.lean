section CM3
/-! growing trees, line by line, from the lines in order -/
theorem cm_fnd_none {P : Int → Bool} : ∀ k : Nat, jk_fnd P k = -1 → ∀ i : Nat, i < k → P (i : Int) = false
  | 0, _, i, hi => absurd hi (Nat.not_lt_zero i)
  | k + 1, h, i, hi => by
    unfold jk_fnd at h
    by_cases h0 : jk_fnd P k = -1
    · rw [if_pos h0] at h
      by_cases e : i = k
      · subst e
        cases hP : P (i : Int) with
        | false => rfl
        | true => rw [if_pos hP] at h; omega
      · exact cm_fnd_none k h0 i (by omega)
    · rw [if_neg h0] at h; exact absurd h h0
theorem cm_fnd_some {P : Int → Bool} : ∀ k : Nat, jk_fnd P k ≠ -1 → ∃ i : Nat, i < k ∧ jk_fnd P k = (i : Int) ∧ P (i : Int) = true ∧ ∀ j : Nat, j < i → P (j : Int) = false
  | 0, h => absurd rfl h
  | k + 1, h => by
    unfold jk_fnd at h ⊢
    by_cases h0 : jk_fnd P k = -1
    · rw [if_pos h0] at h ⊢
      cases hP : P (k : Int) with
      | false => rw [hP, if_neg (by decide)] at h; exact absurd rfl h
      | true => exact ⟨k, by omega, by rw [if_pos rfl], hP, cm_fnd_none k h0⟩
    · rw [if_neg h0]
      obtain ⟨i, h1, h2, h3, h4⟩ := cm_fnd_some k h0
      exact ⟨i, by omega, h2, h3, h4⟩
/-- no line leads out, or the line is one of the forest's -/
theorem cm_flo_no {g Od K : Int → Int} {N : Nat} (hs : cm_srt g Od N (g 1)) (h : cm_flo g Od K N = -1) : ∀ l, 0 ≤ l ∧ l < g 1 → md_good g l = true → K (g (24 + l)) = K (g (40 + l)) := fun l hl hg => by
  have h0 : jk_fnd (fun i => cm_crs g K (Od i)) N = -1 := Classical.byContradiction (fun q => by
    obtain ⟨i, h1, h2, -⟩ := cm_fnd_some N q
    unfold cm_flo at h
    rw [if_neg q, h2] at h
    have := (hs.1 i h1).1
    omega)
  obtain ⟨i, hi, e⟩ := hs.2.2 l hl hg
  have h1 := cm_fnd_none N h0 i hi
  have h2 := of_decide_eq_false h1
  rw [e] at h2
  exact Classical.byContradiction h2
theorem cm_flo_yes {g Od K : Int → Int} {N : Nat} (hp : cm_pt g) (hs : cm_srt g Od N (g 1)) (h : cm_flo g Od K N ≠ -1) : (0 ≤ cm_flo g Od K N ∧ cm_flo g Od K N < g 1) ∧ md_T g (cm_flo g Od K N) = 1 ∧ K (g (24 + cm_flo g Od K N)) ≠ K (g (40 + cm_flo g Od K N)) := by
  have h0 : jk_fnd (fun i => cm_crs g K (Od i)) N ≠ -1 := fun q => h (by unfold cm_flo; rw [if_pos q])
  obtain ⟨i, h1, h2, h3, h4⟩ := cm_fnd_some N h0
  have e : cm_flo g Od K N = Od (i : Int) := by unfold cm_flo; rw [if_neg h0, h2]
  rw [e]
  obtain ⟨b1, b2⟩ := hs.1 i h1
  have hx : K (g (24 + Od (i : Int))) ≠ K (g (40 + Od (i : Int))) := of_decide_eq_true h3
  refine ⟨b1, ?_, hx⟩
  obtain ⟨hks, -, hcut⟩ := cm_T hp
  rcases hks.1 _ b1 with h9 | h9
  · exfalso
    refine hx (hcut _ b1 b2 (cm_key_lt hp b1) h9 K (fun l hl hT hk => ?_))
    have hg : md_good g l = true := by
      rcases hks.1 l hl with h8 | h8
      · have h8' : md_T g l = 0 := h8
        have hT' : md_T g l = 1 := hT
        rw [h8'] at hT'; exact absurd hT' (by decide)
      · exact h8.2.1
    obtain ⟨j, hj, ej⟩ := hs.2.2 l hl hg
    have hji : j < i := by
      rcases Nat.lt_trichotomy j i with q | q | q
      · exact q
      · rw [q] at ej; rw [ej] at hk; omega
      · have := hs.2.1 i j q hj
        rw [ej] at this; omega
    have h7 := of_decide_eq_false (h4 j hji)
    rw [ej] at h7
    exact Classical.byContradiction h7
  · exact h9.1
/-- one step of growing: who is reached, the lengths so far -/
def cm_g1 (g Od : Int → Int) (N : Nat) (s : (Int → Int) × Int) : (Int → Int) × Int := if cm_flo g Od s.1 N = -1 then s else (jk_set (jk_set s.1 (g (24 + cm_flo g Od s.1 N)) 1) (g (40 + cm_flo g Od s.1 N)) 1, s.2 + g (56 + cm_flo g Od s.1 N))
def cm_gn (g Od : Int → Int) (N : Nat) (s : (Int → Int) × Int) : Nat → (Int → Int) × Int
  | 0 => s
  | k + 1 => cm_g1 g Od N (cm_gn g Od N s k)
theorem cm_gn_stop {g Od : Int → Int} {N : Nat} {s : (Int → Int) × Int} {k : Nat} (h : cm_flo g Od (cm_gn g Od N s k).1 N = -1) : ∀ d : Nat, cm_gn g Od N s (k + d) = cm_gn g Od N s k
  | 0 => rfl
  | d + 1 => by
    show cm_g1 g Od N (cm_gn g Od N s (k + d)) = _
    rw [cm_gn_stop h d]; unfold cm_g1; rw [if_pos h]
def cm_both (g K : Int → Int) (l : Int) : Int := if md_T g l = 1 ∧ K (g (24 + l)) = 1 ∧ K (g (40 + l)) = 1 then g (56 + l) else 0
def cm_bs (g K : Int → Int) : Int := jk_sum (cm_both g K) (g 1).toNat
/-- while a tree grows from i over what was whole before -/
def cm_gi (g K0 : Int → Int) (i b : Int) (s : (Int → Int) × Int) : Prop := md_kb s.1 ∧ (∀ p, 0 ≤ p ∧ p < 10 → K0 p = 1 → s.1 p = 1) ∧ s.1 i = 1 ∧ cm_bs g s.1 = b + s.2 ∧
  ∀ F : Int → Int, (∀ l, 0 ≤ l ∧ l < g 1 → md_T g l = 1 → s.1 (g (24 + l)) = 1 → s.1 (g (40 + l)) = 1 → F (g (24 + l)) = F (g (40 + l))) → ∀ p, 0 ≤ p ∧ p < g 0 → s.1 p = 1 → K0 p = 0 → F p = F i
theorem cm_gi_add {g K0 : Int → Int} {i b sm : Int} {K : Int → Int} (hp : cm_pt g) (hk0 : md_kb K0) (hcl : ∀ l, 0 ≤ l ∧ l < g 1 → md_good g l = true → K0 (g (24 + l)) = K0 (g (40 + l))) (h : cm_gi g K0 i b (K, sm)) {r u v : Int} (hr : 0 ≤ r ∧ r < g 1) (hT : md_T g r = 1) (hu : K u = 1) (hv : K v = 0) (he : (g (24 + r) = u ∧ g (40 + r) = v) ∨ (g (24 + r) = v ∧ g (40 + r) = u)) : cm_gi g K0 i b (jk_set K v 1, sm + g (56 + r)) := by
  obtain ⟨a1, a2, a3, a4, a5⟩ := h
  obtain ⟨p0, p1, hw, p2⟩ := id hp
  obtain ⟨hks, -, -⟩ := cm_T hp
  have hgood : ∀ l, 0 ≤ l ∧ l < g 1 → md_T g l = 1 → md_good g l = true := fun l hl hT9 => by
    rcases hks.1 l hl with h8 | h8
    · have h8' : md_T g l = 0 := h8
      rw [h8'] at hT9; exact absurd hT9 (by decide)
    · exact h8.2.1
  have hrp := p2 r hr
  have hvr : 0 ≤ v ∧ v < g 0 := by rcases he with ⟨-, e⟩ | ⟨e, -⟩ <;> rw [← e]; exact hrp.2.1; exact hrp.1
  have hur : 0 ≤ u ∧ u < g 0 := by rcases he with ⟨e, -⟩ | ⟨-, e⟩ <;> rw [← e]; exact hrp.1; exact hrp.2.1
  have hK0v : K0 v = 0 := (hk0 v ⟨hvr.1, by omega⟩).resolve_right (fun q => by have := a2 v ⟨hvr.1, by omega⟩ q; have h9 : K v = 1 := this; rw [hv] at h9; exact absurd h9 (by decide))
  have hc0 : ∀ l, 0 ≤ l ∧ l < g 1 → md_T g l = 1 → ∀ x, (g (24 + l) = v ∧ g (40 + l) = x) ∨ (g (24 + l) = x ∧ g (40 + l) = v) → K0 x = 0 := fun l hl hT9 x hx => by
    have := hcl l hl (hgood l hl hT9)
    rcases hx with ⟨e1, e2⟩ | ⟨e1, e2⟩ <;> rw [e1, e2] at this <;> omega
  have hK0u : K0 u = 0 := hc0 r hr hT u (by rcases he with ⟨e1, e2⟩ | ⟨e1, e2⟩; exact Or.inr ⟨e1, e2⟩; exact Or.inl ⟨e1, e2⟩)
  have hone : ∀ l, 0 ≤ l ∧ l < g 1 → md_T g l = 1 → l ≠ r → ∀ x, (g (24 + l) = v ∧ g (40 + l) = x) ∨ (g (24 + l) = x ∧ g (40 + l) = v) → K x = 1 → False := by
    intro l hl hT9 hlr x hx hKx
    obtain ⟨P, hP⟩ := hks.2.2.1 (fun k => if k = l then 1 else 0)
    have hxr : 0 ≤ x ∧ x < g 0 := by rcases hx with ⟨-, e⟩ | ⟨e, -⟩ <;> rw [← e]; exact (p2 l hl).2.1; exact (p2 l hl).1
    have hF : ∀ k, 0 ≤ k ∧ k < g 1 → md_T g k = 1 → K (g (24 + k)) = 1 → K (g (40 + k)) = 1 → P (g (24 + k)) = P (g (40 + k)) := fun k hk hTk h1 h2 => by
      have hkl : k ≠ l := fun q => by
        rw [q] at h1 h2
        rcases hx with ⟨e1, e2⟩ | ⟨e1, e2⟩
        · rw [e1, hv] at h1; exact absurd h1 (by decide)
        · rw [e2, hv] at h2; exact absurd h2 (by decide)
      have e9 := hP k hk hTk
      have : (fun k : Int => if k = l then (1 : Int) else 0) k = 0 := if_neg hkl
      rw [this] at e9; omega
    have q1 := a5 P hF u hur hu hK0u
    have q2 := a5 P hF x hxr hKx (hc0 l hl hT9 x hx)
    have e1 := hP r hr hT
    have e2 := hP l hl hT9
    have f1 : (fun k : Int => if k = l then (1 : Int) else 0) r = 0 := if_neg (fun q => hlr q.symm)
    have f2 : (fun k : Int => if k = l then (1 : Int) else 0) l = 1 := if_pos rfl
    rw [f1] at e1; rw [f2] at e2
    rcases he with ⟨b1, b2⟩ | ⟨b1, b2⟩ <;> rcases hx with ⟨c1, c2⟩ | ⟨c1, c2⟩ <;> rw [b1, b2] at e1 <;> rw [c1, c2] at e2 <;> omega
  refine ⟨md_set_kb a1 v, fun p hp9 hq => ?_, ?_, ?_, fun F hF p hp9 hk hk0' => ?_⟩
  · show jk_set K v 1 p = 1
    unfold jk_set; split; rfl; exact a2 p hp9 hq
  · show jk_set K v 1 i = 1
    unfold jk_set; split; rfl; exact a3
  · show cm_bs g (jk_set K v 1) = b + (sm + g (56 + r))
    have e : cm_bs g (jk_set K v 1) = jk_sum (jk_set (cm_both g K) r (g (56 + r))) (g 1).toNat := by
      refine jk_sum_cong _ (fun l h0 h1 => ?_)
      have hl : 0 ≤ l ∧ l < g 1 := ⟨h0, by omega⟩
      by_cases elr : l = r
      · subst elr
        rw [jk_set_at]
        unfold cm_both
        rw [if_pos]
        refine ⟨hT, ?_, ?_⟩ <;> unfold jk_set <;> split <;> first | rfl | skip
        · rcases he with ⟨b1, b2⟩ | ⟨b1, b2⟩
          · rw [b1]; exact hu
          · rename_i hn; exact absurd b1 hn
        · rcases he with ⟨b1, b2⟩ | ⟨b1, b2⟩
          · rename_i hn; exact absurd b2 hn
          · rw [b2]; exact hu
      · rw [jk_set_ne _ _ elr]
        unfold cm_both
        by_cases hTl : md_T g l = 1
        · by_cases hv1 : g (24 + l) = v
          · have hk9 : K (g (24 + l)) = 0 := by rw [hv1]; exact hv
            rw [if_neg (fun q => by have := q.2.1; rw [hk9] at this; exact absurd this (by decide)) (c := md_T g l = 1 ∧ K (g (24 + l)) = 1 ∧ K (g (40 + l)) = 1)]
            refine if_neg (fun q => hone l hl hTl elr (g (40 + l)) (Or.inl ⟨hv1, rfl⟩) ?_)
            have q2 := q.2.2
            rwa [jk_set_ne _ _ (fun z => (p2 l hl).2.2.1 (hv1.trans z.symm))] at q2
          · by_cases hv2 : g (40 + l) = v
            · have hk9 : K (g (40 + l)) = 0 := by rw [hv2]; exact hv
              rw [if_neg (fun q => by have := q.2.2; rw [hk9] at this; exact absurd this (by decide)) (c := md_T g l = 1 ∧ K (g (24 + l)) = 1 ∧ K (g (40 + l)) = 1)]
              refine if_neg (fun q => hone l hl hTl elr (g (24 + l)) (Or.inr ⟨rfl, hv2⟩) ?_)
              have q2 := q.2.1
              rwa [jk_set_ne _ _ hv1] at q2
            · rw [jk_set_ne _ _ hv1, jk_set_ne _ _ hv2]
        · rw [if_neg (fun q => hTl q.1), if_neg (fun q => hTl q.1)]
    have e0 : cm_both g K r = 0 := by
      unfold cm_both
      refine if_neg (fun q => ?_)
      rcases he with ⟨b1, b2⟩ | ⟨b1, b2⟩
      · have := q.2.2; rw [b2, hv] at this; exact absurd this (by decide)
      · have := q.2.1; rw [b1, hv] at this; exact absurd this (by decide)
    have a4' : jk_sum (cm_both g K) (g 1).toNat = b + sm := a4
    rw [e, jk_sum_set, if_pos ⟨hr.1, by omega⟩, e0, a4']; omega
  · have hF' : ∀ l, 0 ≤ l ∧ l < g 1 → md_T g l = 1 → K (g (24 + l)) = 1 → K (g (40 + l)) = 1 → F (g (24 + l)) = F (g (40 + l)) := fun l hl hT9 h1 h2 => hF l hl hT9 (by show jk_set K v 1 _ = 1; unfold jk_set; split; rfl; exact h1) (by show jk_set K v 1 _ = 1; unfold jk_set; split; rfl; exact h2)
    have hk' : jk_set K v 1 p = 1 := hk
    by_cases ep : p = v
    · have q1 := a5 F hF' u hur hu hK0u
      have q2 := hF r hr hT (by show jk_set K v 1 _ = 1; unfold jk_set; split; rfl; rename_i hn; rcases he with ⟨b1, b2⟩ | ⟨b1, b2⟩; rw [b1]; exact hu; exact absurd b1 hn) (by show jk_set K v 1 _ = 1; unfold jk_set; split; rfl; rename_i hn; rcases he with ⟨b1, b2⟩ | ⟨b1, b2⟩; exact absurd b2 hn; rw [b2]; exact hu)
      rw [ep]
      rcases he with ⟨b1, b2⟩ | ⟨b1, b2⟩ <;> rw [b1, b2] at q2 <;> omega
    · rw [jk_set_ne _ _ ep] at hk'
      exact a5 F hF' p hp9 hk' hk0'
theorem cm_set_id {r : Int → Int} {i v : Int} (h : r i = v) : jk_set r i v = r := by rw [← h]; exact md_set_self r i
theorem cm_gi_1 {g Od K0 : Int → Int} {N : Nat} {i b : Int} {s : (Int → Int) × Int} (hp : cm_pt g) (hs : cm_srt g Od N (g 1)) (hk0 : md_kb K0) (hcl : ∀ l, 0 ≤ l ∧ l < g 1 → md_good g l = true → K0 (g (24 + l)) = K0 (g (40 + l))) (h : cm_gi g K0 i b s) : cm_gi g K0 i b (cm_g1 g Od N s) ∧ (cm_flo g Od s.1 N ≠ -1 → md_cnt (cm_g1 g Od N s).1 = md_cnt s.1 + 1) := by
  unfold cm_g1
  by_cases h0 : cm_flo g Od s.1 N = -1
  · rw [if_pos h0]; exact ⟨h, fun q => absurd h0 q⟩
  · rw [if_neg h0]
    obtain ⟨b1, b2, b3⟩ := cm_flo_yes hp hs h0
    obtain ⟨p0, p1, hw, p2⟩ := id hp
    obtain ⟨q1, q2, q3, -⟩ := p2 _ b1
    have ka := h.1 (g (24 + cm_flo g Od s.1 N)) ⟨q1.1, by omega⟩
    have kb := h.1 (g (40 + cm_flo g Od s.1 N)) ⟨q2.1, by omega⟩
    by_cases h1 : s.1 (g (24 + cm_flo g Od s.1 N)) = 0
    · have h2 : s.1 (g (40 + cm_flo g Od s.1 N)) = 1 := kb.resolve_left (fun q => b3 (h1.trans q.symm))
      have e : jk_set (jk_set s.1 (g (24 + cm_flo g Od s.1 N)) 1) (g (40 + cm_flo g Od s.1 N)) 1 = jk_set s.1 (g (24 + cm_flo g Od s.1 N)) 1 := cm_set_id (by rw [jk_set_ne _ _ (fun q => q3 q.symm)]; exact h2)
      rw [e]
      exact ⟨cm_gi_add hp hk0 hcl h b1 b2 h2 h1 (Or.inr ⟨rfl, rfl⟩), fun _ => by show md_cnt (jk_set s.1 _ 1) = _; rw [md_cnt_set ⟨q1.1, by omega⟩, h1]; omega⟩
    · have h1' := ka.resolve_left h1
      have h2 : s.1 (g (40 + cm_flo g Od s.1 N)) = 0 := kb.resolve_right (fun q => b3 (h1'.trans q.symm))
      have e : jk_set s.1 (g (24 + cm_flo g Od s.1 N)) 1 = s.1 := cm_set_id h1'
      rw [e]
      exact ⟨cm_gi_add hp hk0 hcl h b1 b2 h1' h2 (Or.inl ⟨rfl, rfl⟩), fun _ => by show md_cnt (jk_set s.1 _ 1) = _; rw [md_cnt_set ⟨q2.1, by omega⟩, h2]; omega⟩
theorem cm_gi_n {g Od K0 : Int → Int} {N : Nat} {i b : Int} {s : (Int → Int) × Int} (hp : cm_pt g) (hs : cm_srt g Od N (g 1)) (hk0 : md_kb K0) (hcl : ∀ l, 0 ≤ l ∧ l < g 1 → md_good g l = true → K0 (g (24 + l)) = K0 (g (40 + l))) (h : cm_gi g K0 i b s) : ∀ k : Nat, cm_gi g K0 i b (cm_gn g Od N s k) ∧ (cm_flo g Od (cm_gn g Od N s k).1 N = -1 ∨ md_cnt s.1 + (k : Int) ≤ md_cnt (cm_gn g Od N s k).1)
  | 0 => ⟨h, Or.inr (by show md_cnt s.1 + 0 ≤ md_cnt s.1; omega)⟩
  | k + 1 => by
    obtain ⟨h1, h2⟩ := cm_gi_n hp hs hk0 hcl h k
    obtain ⟨h3, h4⟩ := cm_gi_1 (N := N) hp hs hk0 hcl h1
    refine ⟨h3, ?_⟩
    by_cases h0 : cm_flo g Od (cm_gn g Od N s k).1 N = -1
    · left
      have := cm_gn_stop h0 1
      rw [this]; exact h0
    · right
      have := h4 h0
      rcases h2 with h2 | h2
      · exact absurd h2 h0
      · show _ ≤ md_cnt (cm_g1 g Od N (cm_gn g Od N s k)).1
        omega
/-- over all: whole trees, their lengths -/
def cm_go (g K : Int → Int) (sm : Int) : Prop := md_kb K ∧ (∀ l, 0 ≤ l ∧ l < g 1 → md_good g l = true → K (g (24 + l)) = K (g (40 + l))) ∧ cm_bs g K = sm
theorem cm_go_grow {g Od K : Int → Int} {N : Nat} {sm i : Int} (hp : cm_pt g) (hs : cm_srt g Od N (g 1)) (h : cm_go g K sm) (hi : 0 ≤ i ∧ i < g 0) (hK : K i = 0) : cm_go g (cm_gn g Od N (jk_set K i 1, 0) 9).1 (sm + (cm_gn g Od N (jk_set K i 1, 0) 9).2) ∧ (cm_gn g Od N (jk_set K i 1, 0) 9).1 i = 1 ∧ ∀ p, 0 ≤ p ∧ p < 10 → K p = 1 → (cm_gn g Od N (jk_set K i 1, 0) 9).1 p = 1 := by
  obtain ⟨h1, h2, h3⟩ := h
  obtain ⟨p0, p1, hw, p2⟩ := id hp
  obtain ⟨hks, -, -⟩ := cm_T hp
  have hgood : ∀ l, 0 ≤ l ∧ l < g 1 → md_T g l = 1 → md_good g l = true := fun l hl hT9 => by
    rcases hks.1 l hl with h8 | h8
    · have h8' : md_T g l = 0 := h8
      rw [h8'] at hT9; exact absurd hT9 (by decide)
    · exact h8.2.1
  have h0 : cm_gi g K i sm (jk_set K i 1, 0) := by
    refine ⟨md_set_kb h1 i, fun p _ hq => by show jk_set K i 1 p = 1; unfold jk_set; split; rfl; exact hq, jk_set_at _ _ _, ?_, fun F _ p hp9 hk hk0 => ?_⟩
    · show cm_bs g (jk_set K i 1) = sm + 0
      rw [← h3]
      have : cm_bs g (jk_set K i 1) = cm_bs g K := by
        refine jk_sum_cong _ (fun l h5 h6 => ?_)
        have hl : 0 ≤ l ∧ l < g 1 := ⟨h5, by omega⟩
        unfold cm_both
        by_cases hTl : md_T g l = 1
        · have hcl := h2 l hl (hgood l hl hTl)
          have hne := (p2 l hl).2.2.1
          by_cases e1 : g (24 + l) = i
          · rw [if_neg, if_neg]
            · intro q; have := q.2.1; rw [e1, hK] at this; exact absurd this (by decide)
            · intro q; have q2 := q.2.2; rw [jk_set_ne _ _ (fun z => hne (e1.trans z.symm)), ← hcl, e1, hK] at q2; exact absurd q2 (by decide)
          · by_cases e2 : g (40 + l) = i
            · rw [if_neg, if_neg]
              · intro q; have := q.2.2; rw [e2, hK] at this; exact absurd this (by decide)
              · intro q; have q2 := q.2.1; rw [jk_set_ne _ _ e1, hcl, e2, hK] at q2; exact absurd q2 (by decide)
            · rw [jk_set_ne _ _ e1, jk_set_ne _ _ e2]
        · rw [if_neg (fun q => hTl q.1), if_neg (fun q => hTl q.1)]
      rw [this]; omega
    · have hk' : jk_set K i 1 p = 1 := hk
      by_cases e : p = i
      · rw [e]
      · rw [jk_set_ne _ _ e, hk0] at hk'; exact absurd hk' (by decide)
  obtain ⟨h4, h5⟩ := cm_gi_n (N := N) hp hs h1 h2 h0 9
  refine ⟨⟨h4.1, ?_, h4.2.2.2.1⟩, h4.2.2.1, h4.2.1⟩
  rcases h5 with h5 | h5
  · exact cm_flo_no hs h5
  · have hc1 : 1 ≤ md_cnt (jk_set K i 1) := by
      have := jk_sum_ge (f := jk_set K i 1) (i := i) 10 (fun j a b => by have := md_set_kb h1 i j ⟨a, by omega⟩; omega) hi.1 (by omega)
      rw [jk_set_at] at this; exact this
    have hall : ∀ p, 0 ≤ p ∧ p < 10 → (cm_gn g Od N (jk_set K i 1, 0) 9).1 p = 1 := fun p hp9 => by
      rcases h4.1 p hp9 with q | q
      · exfalso
        have e := md_cnt_set (K := (cm_gn g Od N (jk_set K i 1, 0) 9).1) (v := 1) hp9
        have e2 := md_cnt_10 (md_set_kb h4.1 p)
        rw [q] at e
        have h5' : md_cnt (jk_set K i 1) + ((9 : Nat) : Int) ≤ md_cnt (cm_gn g Od N (jk_set K i 1, 0) 9).1 := h5
        omega
      · exact q
    intro l hl _
    obtain ⟨q1, q2, -⟩ := p2 l hl
    rw [hall _ ⟨q1.1, by omega⟩, hall _ ⟨q2.1, by omega⟩]
theorem cm_go_0 {g : Int → Int} {K : Int → Int} (hK : ∀ p, 0 ≤ p ∧ p < 10 → K p = 0) (hp : cm_pt g) : cm_go g K 0 := by
  obtain ⟨p0, p1, hw, p2⟩ := id hp
  have hz : ∀ l, 0 ≤ l ∧ l < g 1 → K (g (24 + l)) = 0 ∧ K (g (40 + l)) = 0 := fun l hl => ⟨hK _ ⟨(p2 l hl).1.1, by have := (p2 l hl).1.2; omega⟩, hK _ ⟨(p2 l hl).2.1.1, by have := (p2 l hl).2.1.2; omega⟩⟩
  refine ⟨fun p hp9 => Or.inl (hK p hp9), fun l hl _ => by rw [(hz l hl).1, (hz l hl).2], ?_⟩
  have : cm_bs g K = jk_sum (fun _ => 0) (g 1).toNat := jk_sum_cong _ (fun l h0 h1 => by unfold cm_both; exact if_neg (fun q => by have := q.2.1; rw [(hz l ⟨h0, by omega⟩).1] at this; exact absurd this (by decide)))
  rw [this, cm_sum0]
theorem cm_go_all {g : Int → Int} {K : Int → Int} {sm : Int} {B : Int} (hi : md_inv B g) (hp : cm_pt g) (h : cm_go g K sm) (hK : ∀ p, 0 ≤ p ∧ p < g 0 → K p = 1) : sm = jk_sum (fun l => md_T g l * g (56 + l)) (g 1).toNat := by
  obtain ⟨p0, p1, hw, p2⟩ := id hp
  rw [← h.2.2]
  refine jk_sum_cong _ (fun l h0 h1 => ?_)
  have hl : 0 ≤ l ∧ l < g 1 := ⟨h0, by omega⟩
  have hT := (md_kr_tr hi 50).1 l ⟨by omega, by omega⟩
  have hT' : md_T g l = 0 ∨ md_T g l = 1 := hT
  unfold cm_both
  rcases hT' with e | e <;> rw [e]
  · rw [if_neg (fun q => absurd q.1 (by decide))]; omega
  · rw [if_pos ⟨rfl, hK _ (p2 l hl).1, hK _ (p2 l hl).2.1⟩]; omega
end CM3
