section CM1
/-! THE CLASS'S FOREST: what the search for the forest keeps; lines in order -/
def cm_key (g : Int → Int) (l : Int) : Int := 16 * g (56 + l) + l
def cm_pot (g T w P : Int → Int) : Prop := ∀ l, 0 ≤ l ∧ l < g 1 → T l = 1 → P (g (40 + l)) - P (g (24 + l)) = w l
def cm_pt (g : Int → Int) : Prop := (0 ≤ g 0 ∧ g 0 ≤ 10) ∧ (0 ≤ g 1 ∧ g 1 ≤ 16) ∧ md_inw g ∧ ∀ l, 0 ≤ l ∧ l < g 1 → (0 ≤ g (24 + l) ∧ g (24 + l) < g 0) ∧ (0 ≤ g (40 + l) ∧ g (40 + l) < g 0) ∧ g (24 + l) ≠ g (40 + l) ∧ 1 ≤ g (56 + l) ∧ g (56 + l) ≤ 50
theorem cm_pt_of {B : Int} {g : Int → Int} (hi : md_inv B g) (hw : md_inw g) : cm_pt g := by
  refine ⟨hi.1, hi.2.1, hw, fun l hl => ?_⟩
  have i1 := hi.2.1
  have h1 := hw l hl
  have h2 := md_inv_ln hi (l := l) ⟨by omega, by omega⟩
  exact ⟨⟨h2.1.1, h1.2.1⟩, ⟨h2.2.1.1, h1.2.2.1⟩, h1.2.2.2, h1.1, h2.2.2.1.2⟩
def cm_ks (g : Int → Int) (s : md_SS) : Prop :=
  (∀ l, 0 ≤ l ∧ l < g 1 → s.1 l = 0 ∨ (s.1 l = 1 ∧ md_good g l = true ∧ s.2 (g (24 + l)) = s.2 (g (40 + l)))) ∧
  (∀ p, 0 ≤ p ∧ p < g 0 → (0 ≤ s.2 p ∧ s.2 p < g 0) ∧ s.2 (s.2 p) = s.2 p) ∧
  (∀ w, ∃ P, cm_pot g s.1 w P) ∧
  (∀ p q, 0 ≤ p ∧ p < g 0 → 0 ≤ q ∧ q < g 0 → s.2 p = s.2 q → md_cnn g s.1 p q) ∧
  jk_sum s.1 (g 1).toNat + jk_sum (fun p => jB (decide (s.2 p = p))) (g 0).toNat = g 0
theorem cm_uni {r : Int → Int} {c a b : Int} (hne : r a ≠ r b) : ∃ lo hi, ((lo = r a ∧ hi = r b) ∨ (lo = r b ∧ hi = r a)) ∧ lo < hi ∧ ∀ p, 0 ≤ p ∧ p < c → md_uni r c a b p = if r p = hi then lo else r p := by
  rcases Int.lt_or_gt_of_ne hne with h | h
  · refine ⟨r a, r b, Or.inl ⟨rfl, rfl⟩, h, fun p hp => ?_⟩
    unfold md_uni
    rw [if_pos h, if_pos h]
    by_cases e : r p = r b
    · rw [if_pos ⟨hp.1, hp.2, e⟩, if_pos e]
    · rw [if_neg (fun q => e q.2.2), if_neg e]
  · refine ⟨r b, r a, Or.inr ⟨rfl, rfl⟩, h, fun p hp => ?_⟩
    unfold md_uni
    have h' : ¬ r a < r b := by omega
    rw [if_neg h', if_neg h']
    by_cases e : r p = r a
    · rw [if_pos ⟨hp.1, hp.2, e⟩, if_pos e]
    · rw [if_neg (fun q => e q.2.2), if_neg e]
theorem cm_ks_take {g : Int → Int} {s : md_SS} {l : Int} (hp : cm_pt g) (h : cm_ks g s) (hl : 0 ≤ l ∧ l < g 1) : cm_ks g (md_take g s l) := by
  obtain ⟨h1, h2, h3, h4, h5⟩ := h
  obtain ⟨p0, p1, hw, p2⟩ := hp
  have hki : md_ki g s (fun _ => False) := ⟨fun _ _ hf => hf.elim, h4⟩
  have hki2 := (md_ki_take hw hki hl (fun x hx => ⟨(p2 x hx).1.1, (p2 x hx).2.1.1⟩)).2
  obtain ⟨a1, a2, a3, a4, a5⟩ := p2 l hl
  have hra := h2 _ a1
  have hrb := h2 _ a2
  unfold md_take at hki2 ⊢
  split
  · rename_i hc
    rw [if_pos hc] at hki2
    have hs0 : s.1 l = 0 := (h1 l hl).resolve_right (fun q => hc.2 q.2.2)
    obtain ⟨lo, hi, e1, e2, e3⟩ := cm_uni (c := g 0) hc.2
    have elo : (0 ≤ lo ∧ lo < g 0) ∧ s.2 lo = lo := by rcases e1 with ⟨q1, q2⟩ | ⟨q1, q2⟩ <;> rw [q1] <;> assumption
    have ehi : (0 ≤ hi ∧ hi < g 0) ∧ s.2 hi = hi := by rcases e1 with ⟨q1, q2⟩ | ⟨q1, q2⟩ <;> rw [q2] <;> assumption
    refine ⟨fun x hx => ?_, fun q hq => ?_, fun w => ?_, hki2, ?_⟩
    · by_cases e : x = l
      · subst e; exact Or.inr ⟨jk_set_at _ _ _, hc.1, md_uni_ab a1 a2⟩
      · show jk_set s.1 l 1 x = 0 ∨ (jk_set s.1 l 1 x = 1 ∧ _ ∧ md_uni s.2 (g 0) (g (24 + l)) (g (40 + l)) (g (24 + x)) = md_uni s.2 (g 0) (g (24 + l)) (g (40 + l)) (g (40 + x)))
        rw [jk_set_ne _ _ e]
        rcases h1 x hx with q | ⟨q1, q2, q3⟩
        · exact Or.inl q
        · exact Or.inr ⟨q1, q2, md_uni_eq (p2 x hx).1 (p2 x hx).2.1 q3⟩
    · show (0 ≤ md_uni s.2 (g 0) (g (24 + l)) (g (40 + l)) q ∧ md_uni s.2 (g 0) (g (24 + l)) (g (40 + l)) q < g 0) ∧ md_uni s.2 (g 0) (g (24 + l)) (g (40 + l)) (md_uni s.2 (g 0) (g (24 + l)) (g (40 + l)) q) = md_uni s.2 (g 0) (g (24 + l)) (g (40 + l)) q
      have hq2 := h2 q hq
      rw [e3 q hq]
      by_cases e : s.2 q = hi
      · rw [if_pos e, e3 lo elo.1, elo.2, if_neg (by omega)]; exact ⟨elo.1, rfl⟩
      · rw [if_neg e, e3 _ hq2.1, hq2.2, if_neg e]; exact ⟨hq2.1, rfl⟩
    · obtain ⟨P, hP⟩ := h3 w
      refine ⟨fun p => P p + if s.2 p = s.2 (g (40 + l)) then w l - (P (g (40 + l)) - P (g (24 + l))) else 0, fun x hx hT => ?_⟩
      by_cases e : x = l
      · subst e
        show P (g (40 + x)) + (if s.2 (g (40 + x)) = s.2 (g (40 + x)) then _ else 0) - (P (g (24 + x)) + if s.2 (g (24 + x)) = s.2 (g (40 + x)) then _ else 0) = _
        rw [if_pos rfl, if_neg hc.2]; omega
      · have hT2 : s.1 x = 1 := by rw [← jk_set_ne s.1 1 e]; exact hT
        have e9 := hP x hx hT2
        have q3 : s.2 (g (24 + x)) = s.2 (g (40 + x)) := by
          rcases h1 x hx with q | ⟨-, -, q3⟩
          · rw [q] at hT2; exact absurd hT2 (by decide)
          · exact q3
        show P (g (40 + x)) + (if s.2 (g (40 + x)) = s.2 (g (40 + l)) then _ else 0) - (P (g (24 + x)) + if s.2 (g (24 + x)) = s.2 (g (40 + l)) then _ else 0) = _
        rw [q3]; omega
    · show jk_sum (jk_set s.1 l 1) (g 1).toNat + jk_sum (fun p => jB (decide (md_uni s.2 (g 0) (g (24 + l)) (g (40 + l)) p = p))) (g 0).toNat = g 0
      have e9 : jk_sum (fun p => jB (decide (md_uni s.2 (g 0) (g (24 + l)) (g (40 + l)) p = p))) (g 0).toNat = jk_sum (jk_set (fun p => jB (decide (s.2 p = p))) hi 0) (g 0).toNat := by
        refine jk_sum_cong _ (fun p hp0 hp1 => ?_)
        have hp9 : 0 ≤ p ∧ p < g 0 := ⟨hp0, by omega⟩
        by_cases e : p = hi
        · subst e; rw [jk_set_at, e3 p hp9, if_pos ehi.2, decide_eq_false (by omega)]; rfl
        · rw [jk_set_ne _ _ e, e3 p hp9]
          by_cases e4 : s.2 p = hi
          · rw [if_pos e4, decide_eq_false (fun e5 => by rw [← e5, elo.2] at e4; omega), decide_eq_false (by omega)]
          · rw [if_neg e4]
      rw [e9, jk_sum_set, jk_sum_set, if_pos ⟨hl.1, by omega⟩, if_pos ⟨ehi.1.1, by omega⟩, hs0, ehi.2, decide_eq_true rfl, jB_t]
      omega
  · exact ⟨h1, h2, h3, h4, h5⟩
theorem cm_sum1 : ∀ k : Nat, jk_sum (fun _ => 1) k = (k : Int)
  | 0 => rfl
  | k + 1 => by show jk_sum (fun _ => 1) k + 1 = _; rw [cm_sum1 k]; omega
theorem cm_sum0 : ∀ k : Nat, jk_sum (fun _ => 0) k = 0
  | 0 => rfl
  | k + 1 => by show jk_sum (fun _ => 0) k + 0 = _; rw [cm_sum0 k]; rfl
theorem cm_ks_0 {g : Int → Int} (hp : cm_pt g) : cm_ks g (md_kr g 0) := by
  obtain ⟨p0, p1, hw, p2⟩ := hp
  have hr : ∀ p, 0 ≤ p ∧ p < g 0 → (md_kr g 0).2 p = p := fun p hp => if_pos ⟨hp.1, by omega⟩
  refine ⟨fun l _ => Or.inl rfl, fun p hp => ?_, fun w => ⟨fun _ => 0, fun l _ hT => absurd hT (by show ¬ (0 : Int) = 1; decide)⟩, fun p q hp hq e => ?_, ?_⟩
  · rw [hr p hp, hr p hp]; exact ⟨hp, rfl⟩
  · rw [hr p hp, hr q hq] at e; subst e; exact fun K _ => rfl
  · have e1 : jk_sum (fun p => jB (decide ((md_kr g 0).2 p = p))) (g 0).toNat = jk_sum (fun _ => 1) (g 0).toNat := jk_sum_cong _ (fun p h0 h1 => by rw [hr p ⟨h0, by omega⟩, decide_eq_true rfl]; rfl)
    show jk_sum (fun _ => 0) (g 1).toNat + _ = _
    rw [e1, cm_sum0, cm_sum1]; omega
/-- all lines with keys below x are done: who was not taken joined nothing -/
def cm_kt (g : Int → Int) (s : md_SS) (x : Int) : Prop := cm_ks g s ∧ (∀ l, 0 ≤ l ∧ l < g 1 → s.1 l = 1 → cm_key g l < x) ∧
  ∀ e, 0 ≤ e ∧ e < g 1 → md_good g e = true → cm_key g e < x → s.1 e = 0 → ∀ K : Int → Int, (∀ l, 0 ≤ l ∧ l < g 1 → s.1 l = 1 → cm_key g l < cm_key g e → K (g (24 + l)) = K (g (40 + l))) → K (g (24 + e)) = K (g (40 + e))
theorem cm_kt_up {g : Int → Int} {s : md_SS} {x y : Int} (h : cm_kt g s x) (hxy : x ≤ y) (hn : ∀ e, 0 ≤ e ∧ e < g 1 → cm_key g e < y → cm_key g e < x) : cm_kt g s y :=
  ⟨h.1, fun l hl hT => Int.lt_of_lt_of_le (h.2.1 l hl hT) hxy, fun e he hg hk => h.2.2 e he hg (hn e he hk)⟩
theorem cm_kt_take {g : Int → Int} {s : md_SS} {k : Int} (hp : cm_pt g) (hk : 0 ≤ k ∧ k < g 1) (h : cm_kt g s (cm_key g k)) : cm_kt g (md_take g s k) (cm_key g k + 1) := by
  have hks := cm_ks_take hp h.1 hk
  have hone : ∀ e, 0 ≤ e ∧ e < g 1 → cm_key g e = cm_key g k → e = k := fun e he h9 => by
    have := hp.2.1
    unfold cm_key at h9; omega
  have hother : ∀ x, x ≠ k → (md_take g s k).1 x = s.1 x := fun x hx => by
    unfold md_take; split
    · exact jk_set_ne _ _ hx
    · rfl
  refine ⟨hks, fun l hl hT => ?_, fun e he hg h9 h0 K hK => ?_⟩
  · by_cases e : l = k
    · subst e; omega
    · rw [hother l e] at hT; have := h.2.1 l hl hT; omega
  · by_cases e9 : e = k
    · subst e9
      obtain ⟨a1, a2, -⟩ := hp.2.2.2 e hk
      have hroot : s.2 (g (24 + e)) = s.2 (g (40 + e)) := Classical.byContradiction (fun q => by
        unfold md_take at h0
        rw [if_pos ⟨hg, q⟩] at h0
        rw [show (jk_set s.1 e 1, md_uni s.2 (g 0) (g (24 + e)) (g (40 + e))).1 e = 1 from jk_set_at _ _ _] at h0
        exact absurd h0 (by decide))
      refine h.1.2.2.2.1 _ _ a1 a2 hroot K (fun l hl hT => ?_)
      have hlt := h.2.1 l hl hT
      have hne : l ≠ e := fun q => by rw [q] at hlt; omega
      exact hK l hl (by rw [hother l hne]; exact hT) hlt
    · rw [hother e e9] at h0
      have hk9 : cm_key g e < cm_key g k := by
        have h8 : cm_key g e ≠ cm_key g k := fun q => e9 (hone e he q)
        omega
      refine h.2.2 e he hg hk9 h0 K (fun l hl hT hl9 => ?_)
      have hne : l ≠ k := fun q => by rw [q] at hl9; omega
      exact hK l hl (by rw [hother l hne]; exact hT) hl9
theorem cm_kt_li {g : Int → Int} {s : md_SS} {L : Int} (hp : cm_pt g) (h : cm_kt g s (16 * L)) : ∀ k : Nat, (k : Int) ≤ g 1 → cm_kt g (md_li g L k s) (16 * L + (k : Int))
  | 0, _ => by have e : 16 * L + ((0 : Nat) : Int) = 16 * L := Int.add_zero _; rw [e]; exact h
  | k + 1, hk => by
    have h2 := cm_kt_li hp h k (by omega)
    have p1 := hp.2.1
    unfold md_li
    by_cases e : g (56 + (k : Int)) = L
    · rw [if_pos e]
      have ek : cm_key g (k : Int) = 16 * L + (k : Int) := by unfold cm_key; rw [e]
      have h3 := cm_kt_take hp (k := (k : Int)) ⟨by omega, by omega⟩ (by rw [ek]; exact h2)
      rw [ek] at h3
      have e2 : 16 * L + ((k + 1 : Nat) : Int) = 16 * L + (k : Int) + 1 := by omega
      rw [e2]; exact h3
    · rw [if_neg e]
      refine cm_kt_up h2 (by omega) (fun x hx hk9 => ?_)
      unfold cm_key at hk9 ⊢
      by_cases q : x = (k : Int)
      · rw [q] at hk9 ⊢; omega
      · omega
theorem cm_kt_kr {g : Int → Int} (hp : cm_pt g) : ∀ L : Nat, cm_kt g (md_kr g L) (16 * ((L : Int) + 1))
  | 0 => ⟨cm_ks_0 hp, fun l _ hT => absurd hT (by show ¬ (0 : Int) = 1; decide), fun e he _ hk => absurd hk (by have := (hp.2.2.2 e he).2.2.2.1; unfold cm_key; omega)⟩
  | L + 1 => by
    have p1 := hp.2.1
    refine cm_kt_up (cm_kt_li hp (cm_kt_kr hp L) (g 1).toNat (by omega)) (by omega) (fun x hx hk => ?_)
    unfold cm_key at hk ⊢
    omega
theorem cm_T {g : Int → Int} (hp : cm_pt g) : cm_kt g (md_T g, md_Ro g) 816 := cm_kt_kr hp 50
theorem cm_key_lt {g : Int → Int} (hp : cm_pt g) {e : Int} (he : 0 ≤ e ∧ e < g 1) : cm_key g e < 816 := by
  have p1 := hp.2.1
  have := (hp.2.2.2 e he).2.2.2.2
  unfold cm_key; omega
/-! lines in order -/
def cm_fold (g Od : Int → Int) : Nat → md_SS → md_SS
  | 0, s => s
  | k + 1, s => md_take g (cm_fold g Od k s) (Od (k : Int))
/-- Od holds the good lines below c, in ascending order of their keys -/
def cm_srt (g Od : Int → Int) (N : Nat) (c : Int) : Prop := (∀ i : Nat, i < N → (0 ≤ Od (i : Int) ∧ Od (i : Int) < c) ∧ md_good g (Od (i : Int)) = true) ∧ (∀ i j : Nat, i < j → j < N → cm_key g (Od (i : Int)) < cm_key g (Od (j : Int))) ∧ ∀ l, 0 ≤ l ∧ l < c → md_good g l = true → ∃ i : Nat, i < N ∧ Od (i : Int) = l
def cm_atk (g Od : Int → Int) (N j : Nat) (x : Int) : Prop := j ≤ N ∧ (∀ i : Nat, i < j → cm_key g (Od (i : Int)) < x) ∧ ∀ i : Nat, j ≤ i → i < N → x ≤ cm_key g (Od (i : Int))
theorem cm_fold_li {g Od : Int → Int} {N : Nat} {L : Int} {s s0 : md_SS} (hp : cm_pt g) (hs : cm_srt g Od N (g 1)) (h : ∃ j, cm_atk g Od N j (16 * L) ∧ s = cm_fold g Od j s0) : ∀ k : Nat, (k : Int) ≤ g 1 → ∃ j, cm_atk g Od N j (16 * L + (k : Int)) ∧ md_li g L k s = cm_fold g Od j s0
  | 0, _ => by
    have e : 16 * L + ((0 : Nat) : Int) = 16 * L := Int.add_zero _
    rw [e]; exact h
  | k + 1, hk => by
    obtain ⟨j, ⟨j1, j2, j3⟩, e⟩ := cm_fold_li hp hs h k (by omega)
    have p1 := hp.2.1
    have e2 : 16 * L + ((k + 1 : Nat) : Int) = 16 * L + (k : Int) + 1 := by omega
    unfold md_li
    rw [e2, e]
    have stay : (∀ i : Nat, j ≤ i → i < N → cm_key g (Od (i : Int)) ≠ 16 * L + (k : Int)) → cm_atk g Od N j (16 * L + (k : Int) + 1) := fun hne => ⟨j1, fun i hi => by have := j2 i hi; omega, fun i h1 h2 => by have := j3 i h1 h2; have := hne i h1 h2; omega⟩
    have keyk : ∀ i : Nat, i < N → cm_key g (Od (i : Int)) = 16 * L + (k : Int) → Od (i : Int) = (k : Int) ∧ g (56 + (k : Int)) = L := fun i hi h9 => by
      have := (hs.1 i hi).1
      unfold cm_key at h9
      have e5 : Od (i : Int) = (k : Int) := by omega
      rw [e5] at h9
      exact ⟨e5, by omega⟩
    by_cases eL : g (56 + (k : Int)) = L
    · rw [if_pos eL]
      cases hg : md_good g (k : Int) with
      | false =>
        refine ⟨j, stay (fun i h1 h2 h9 => ?_), ?_⟩
        · have h5 := (keyk i h2 h9).1
          have h6 := (hs.1 i h2).2
          rw [h5, hg] at h6; exact absurd h6 (by decide)
        · unfold md_take; rw [if_neg (fun q => by rw [hg] at q; exact absurd q.1 (by decide))]
      | true =>
        obtain ⟨i, hi, hik⟩ := hs.2.2 (k : Int) ⟨by omega, by omega⟩ hg
        have ek : cm_key g (k : Int) = 16 * L + (k : Int) := by unfold cm_key; rw [eL]
        have hij : i = j := by
          rcases Nat.lt_trichotomy i j with q | q | q
          · have := j2 i q; rw [hik, ek] at this; omega
          · exact q
          · have h5 := hs.2.1 j i q hi
            have h6 := j3 j (Nat.le_refl _) (by omega)
            rw [hik, ek] at h5; omega
        subst hij
        refine ⟨i + 1, ⟨by omega, fun x hx => ?_, fun x h1 h2 => ?_⟩, ?_⟩
        · by_cases q : x = i
          · subst q; rw [hik, ek]; omega
          · have := j2 x (by omega); omega
        · have := hs.2.1 i x (by omega) h2
          rw [hik, ek] at this; omega
        · show _ = md_take g (cm_fold g Od i s0) (Od (i : Int))
          rw [hik]
    · rw [if_neg eL]
      exact ⟨j, stay (fun i h1 h2 h9 => eL (keyk i h2 h9).2), rfl⟩
theorem cm_fold_kr {g Od : Int → Int} {N : Nat} (hp : cm_pt g) (hs : cm_srt g Od N (g 1)) : ∀ L : Nat, ∃ j, cm_atk g Od N j (16 * ((L : Int) + 1)) ∧ md_kr g L = cm_fold g Od j (md_kr g 0)
  | 0 => ⟨0, ⟨Nat.zero_le _, fun i hi => absurd hi (Nat.not_lt_zero i), fun i _ hi => by
      have h1 := (hs.1 i hi).1
      have h2 := (hp.2.2.2 _ h1).2.2.2.1
      unfold cm_key; omega⟩, rfl⟩
  | L + 1 => by
    obtain ⟨j, ⟨j1, j2, j3⟩, e⟩ := cm_fold_li hp hs (cm_fold_kr hp hs L) (g 1).toNat (by have := hp.2.1; omega)
    have p1 := hp.2.1
    refine ⟨j, ⟨j1, fun i hi => ?_, fun i h1 h2 => ?_⟩, e⟩
    · have := j2 i hi; omega
    · have h3 := j3 i h1 h2
      have h4 := (hs.1 i h2).1
      unfold cm_key at h3 ⊢; omega
/-- the lines in order, taken one after another, make the forest -/
theorem cm_fold_all {g Od : Int → Int} {N : Nat} (hp : cm_pt g) (hs : cm_srt g Od N (g 1)) : cm_fold g Od N (md_kr g 0) = (md_T g, md_Ro g) := by
  obtain ⟨j, ⟨j1, j2, j3⟩, e⟩ := cm_fold_kr hp hs 50
  have hj : j = N := by
    rcases Nat.lt_or_eq_of_le j1 with q | q
    · have h1 := j3 j (Nat.le_refl _) q
      have h2 := cm_key_lt hp (hs.1 j q).1
      have h3 : (16 * (((50 : Nat) : Int) + 1)) = 816 := rfl
      omega
    · exact q
  rw [← hj, ← e]
  rfl
/-- putting a line in its place -/
theorem cm_srt_ins {g Od Od2 : Int → Int} {N p : Nat} {k : Int} (hk0 : 0 ≤ k ∧ k < 16) (h : cm_srt g Od N k) (hg : md_good g k = true) (hpN : p ≤ N) (h1 : ∀ i : Nat, i < p → Od2 (i : Int) = Od (i : Int)) (h2 : Od2 (p : Int) = k) (h3 : ∀ i : Nat, p ≤ i → i < N → Od2 ((i + 1 : Nat) : Int) = Od (i : Int)) (hgt : ∀ i : Nat, p ≤ i → i < N → g (56 + k) < g (56 + Od (i : Int))) (hle : p = 0 ∨ g (56 + Od ((p - 1 : Nat) : Int)) ≤ g (56 + k)) : cm_srt g Od2 (N + 1) (k + 1) := by
  have hcase : ∀ i : Nat, i < N + 1 → (i < p ∧ Od2 (i : Int) = Od (i : Int)) ∨ (i = p ∧ Od2 (i : Int) = k) ∨ (p < i ∧ Od2 (i : Int) = Od ((i - 1 : Nat) : Int)) := fun i hi => by
    rcases Nat.lt_trichotomy i p with q | q | q
    · exact Or.inl ⟨q, h1 i q⟩
    · exact Or.inr (Or.inl ⟨q, by rw [q]; exact h2⟩)
    · refine Or.inr (Or.inr ⟨q, ?_⟩)
      have := h3 (i - 1) (by omega) (by omega)
      rw [show i - 1 + 1 = i by omega] at this
      exact this
  have hlow : ∀ i : Nat, i < p → cm_key g (Od (i : Int)) < cm_key g k := fun i hi => by
    have b1 := (h.1 i (by omega)).1
    have hlast : g (56 + Od ((p - 1 : Nat) : Int)) ≤ g (56 + k) := hle.resolve_left (by omega)
    have b2 := (h.1 (p - 1) (by omega)).1
    by_cases q : i = p - 1
    · rw [q] at b1 ⊢; unfold cm_key; omega
    · have := h.2.1 i (p - 1) (by omega) (by omega)
      unfold cm_key at this ⊢; omega
  have hhigh : ∀ i : Nat, p ≤ i → i < N → cm_key g k < cm_key g (Od (i : Int)) := fun i hi hN => by
    have b1 := (h.1 i hN).1
    have := hgt i hi hN
    unfold cm_key; omega
  refine ⟨fun i hi => ?_, fun i j hij hj => ?_, fun l hl hgl => ?_⟩
  · rcases hcase i hi with ⟨q, e⟩ | ⟨q, e⟩ | ⟨q, e⟩ <;> rw [e]
    · have := h.1 i (by omega); exact ⟨⟨this.1.1, by omega⟩, this.2⟩
    · exact ⟨⟨hk0.1, by omega⟩, hg⟩
    · have := h.1 (i - 1) (by omega); exact ⟨⟨this.1.1, by omega⟩, this.2⟩
  · rcases hcase i (by omega) with ⟨q, e⟩ | ⟨q, e⟩ | ⟨q, e⟩ <;> rcases hcase j hj with ⟨q2, e2⟩ | ⟨q2, e2⟩ | ⟨q2, e2⟩ <;> rw [e, e2] <;> first
      | exact absurd hij (by omega)
      | exact h.2.1 _ _ (by omega) (by omega)
      | exact hlow _ (by omega)
      | exact hhigh _ (by omega) (by omega)
  · by_cases q : l = k
    · exact ⟨p, by omega, by rw [q]; exact h2⟩
    · obtain ⟨i, hi, e⟩ := h.2.2 l ⟨hl.1, by omega⟩ hgl
      by_cases q2 : i < p
      · exact ⟨i, by omega, by rw [h1 i q2]; exact e⟩
      · exact ⟨i + 1, by omega, by rw [h3 i (by omega) hi]; exact e⟩
theorem cm_srt_skip {g Od : Int → Int} {N : Nat} {k : Int} (h : cm_srt g Od N k) (hg : md_good g k = false) : cm_srt g Od N (k + 1) :=
  ⟨fun i hi => ⟨⟨(h.1 i hi).1.1, by have := (h.1 i hi).1.2; omega⟩, (h.1 i hi).2⟩, h.2.1, fun l hl hgl => by
    by_cases q : l = k
    · rw [q, hg] at hgl; exact absurd hgl (by decide)
    · exact h.2.2 l ⟨hl.1, by omega⟩ hgl⟩
end CM1
