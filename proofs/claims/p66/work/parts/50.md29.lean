section MD29
/-- p and q hang together by the lines of T -/
def md_cnn (g T : Int → Int) (p q : Int) : Prop := ∀ K : Int → Int, (∀ l, 0 ≤ l ∧ l < g 1 → T l = 1 → K (g (24 + l)) = K (g (40 + l))) → K p = K q
def md_ki (g : Int → Int) (s : md_SS) (dn : Int → Prop) : Prop := (∀ l, 0 ≤ l ∧ l < g 1 → dn l → md_good g l = true → s.2 (g (24 + l)) = s.2 (g (40 + l))) ∧ ∀ p q, 0 ≤ p ∧ p < g 0 → 0 ≤ q ∧ q < g 0 → s.2 p = s.2 q → md_cnn g s.1 p q
theorem md_uni_eq {r : Int → Int} {c a b x y : Int} (hx : 0 ≤ x ∧ x < c) (hy : 0 ≤ y ∧ y < c) (h : r x = r y) : md_uni r c a b x = md_uni r c a b y := by
  unfold md_uni
  grind
theorem md_uni_ab {r : Int → Int} {c a b : Int} (ha : 0 ≤ a ∧ a < c) (hb : 0 ≤ b ∧ b < c) : md_uni r c a b a = md_uni r c a b b := by
  unfold md_uni
  grind
theorem md_uni_of {r : Int → Int} {c a b x y : Int} (hx : 0 ≤ x ∧ x < c) (hy : 0 ≤ y ∧ y < c) (h : md_uni r c a b x = md_uni r c a b y) : r x = r y ∨ (r x = r a ∧ r y = r b) ∨ (r x = r b ∧ r y = r a) := by
  unfold md_uni at h
  grind
theorem md_cnn_mono {g T : Int → Int} {l p q : Int} (h : md_cnn g T p q) : md_cnn g (jk_set T l 1) p q := fun K hK => h K (fun x hx hT => hK x hx (by unfold jk_set; split; rfl; exact hT))
theorem md_ki_take {g : Int → Int} {s : md_SS} {dn : Int → Prop} {l : Int} (hw : md_inw g) (h : md_ki g s dn) (hl : 0 ≤ l ∧ l < g 1) (h24 : ∀ x, 0 ≤ x ∧ x < g 1 → 0 ≤ g (24 + x) ∧ 0 ≤ g (40 + x)) : md_ki g (md_take g s l) (fun x => dn x ∨ x = l) := by
  have hl1 := hw l hl
  have hl2 := h24 l hl
  unfold md_take
  split
  · rename_i hc
    refine ⟨fun x hx hd hgd => ?_, fun p q hp hq e => ?_⟩
    · have hx1 := hw x hx
      have hx2 := h24 x hx
      rcases hd with hd | hd
      · exact md_uni_eq ⟨hx2.1, hx1.2.1⟩ ⟨hx2.2, hx1.2.2.1⟩ (h.1 x hx hd hgd)
      · rw [hd]; exact md_uni_ab ⟨hl2.1, hl1.2.1⟩ ⟨hl2.2, hl1.2.2.1⟩
    · rcases md_uni_of hp hq e with e | ⟨e1, e2⟩ | ⟨e1, e2⟩
      · exact md_cnn_mono (h.2 p q hp hq e)
      · intro K hK
        have k1 := md_cnn_mono (l := l) (h.2 _ _ hp ⟨hl2.1, hl1.2.1⟩ e1) K hK
        have k2 := md_cnn_mono (l := l) (h.2 _ _ hq ⟨hl2.2, hl1.2.2.1⟩ e2) K hK
        have k3 := hK l hl (jk_set_at _ _ _)
        rw [k1, k3, k2]
      · intro K hK
        have k1 := md_cnn_mono (l := l) (h.2 _ _ hp ⟨hl2.2, hl1.2.2.1⟩ e1) K hK
        have k2 := md_cnn_mono (l := l) (h.2 _ _ hq ⟨hl2.1, hl1.2.1⟩ e2) K hK
        have k3 := hK l hl (jk_set_at _ _ _)
        rw [k1, ← k3, k2]
  · rename_i hc
    refine ⟨fun x hx hd hgd => ?_, h.2⟩
    rcases hd with hd | hd
    · exact h.1 x hx hd hgd
    · subst hd
      exact Classical.byContradiction (fun e => hc ⟨hgd, e⟩)
theorem md_ki_imp {g : Int → Int} {s : md_SS} {dn dn2 : Int → Prop} (h : md_ki g s dn) (hi : ∀ x, 0 ≤ x ∧ x < g 1 → dn2 x → dn x) : md_ki g s dn2 := ⟨fun l hl hd hg => h.1 l hl (hi l hl hd) hg, h.2⟩
theorem md_ki_li {g : Int → Int} {s : md_SS} {dn : Int → Prop} {L : Int} (hw : md_inw g) (h : md_ki g s dn) (h24 : ∀ x, 0 ≤ x ∧ x < g 1 → 0 ≤ g (24 + x) ∧ 0 ≤ g (40 + x)) : ∀ k : Nat, (k : Int) ≤ g 1 → md_ki g (md_li g L k s) (fun x => dn x ∨ (x < (k : Int) ∧ g (56 + x) = L))
  | 0, _ => md_ki_imp h (fun x hx hd => hd.elim id (fun e => absurd e.1 (by omega)))
  | k + 1, hk => by
    have h2 := md_ki_li (L := L) hw h h24 k (by omega)
    unfold md_li
    split
    · rename_i hL
      refine md_ki_imp (md_ki_take hw h2 (l := (k : Int)) ⟨by omega, by omega⟩ h24) (fun x hx hd => ?_)
      rcases hd with hd | hd
      · exact Or.inl (Or.inl hd)
      · by_cases e : x = (k : Int)
        · exact Or.inr e
        · exact Or.inl (Or.inr ⟨by omega, hd.2⟩)
    · rename_i hL
      refine md_ki_imp h2 (fun x hx hd => ?_)
      rcases hd with hd | hd
      · exact Or.inl hd
      · by_cases e : x = (k : Int)
        · exact absurd (e ▸ hd.2) hL
        · exact Or.inr ⟨by omega, hd.2⟩
theorem md_ki_kr {g : Int → Int} (h0 : 0 ≤ g 0 ∧ g 0 ≤ 10) (h1 : 0 ≤ g 1 ∧ g 1 ≤ 16) (hw : md_inw g) (h24 : ∀ x, 0 ≤ x ∧ x < g 1 → 0 ≤ g (24 + x) ∧ 0 ≤ g (40 + x)) : ∀ L : Nat, md_ki g (md_kr g L) (fun x => g (56 + x) ≤ (L : Int))
  | 0 => ⟨fun x hx hd _ => absurd (hw x hx).1 (by omega), fun p q hp hq e => by
    have e2 : (if 0 ≤ p ∧ p < 10 then p else 0) = if 0 ≤ q ∧ q < 10 then q else 0 := e
    rw [if_pos ⟨by omega, by omega⟩, if_pos ⟨by omega, by omega⟩] at e2
    subst e2
    exact fun K _ => rfl⟩
  | L + 1 => by
    refine md_ki_imp (md_ki_li (L := (L : Int) + 1) hw (md_ki_kr h0 h1 hw h24 L) h24 (g 1).toNat (by omega)) (fun x hx hd => ?_)
    by_cases e : g (56 + x) ≤ (L : Int)
    · exact Or.inl e
    · exact Or.inr ⟨by omega, by omega⟩
/-- a closing line joins what hangs together -/
theorem md_clo_cnn {B : Int} {g : Int → Int} (hi : md_inv B g) (hw : md_inw g) {l : Int} (hl : 0 ≤ l ∧ l < g 1) (hc : md_clo g (md_T g) l = true) : md_cnn g (md_T g) (g (24 + l)) (g (40 + l)) := by
  have h1 := hi.2.1
  have h24 : ∀ x, 0 ≤ x ∧ x < g 1 → 0 ≤ g (24 + x) ∧ 0 ≤ g (40 + x) := fun x hx => by
    have := md_inv_ln hi (l := x) ⟨by omega, by omega⟩
    exact ⟨this.1.1, this.2.1.1⟩
  have hk := md_ki_kr hi.1 h1 hw h24 50
  have hl3 := md_inv_ln hi (l := l) ⟨by omega, by omega⟩
  have hl4 := hw l hl
  have hgd : md_good g l = true := by unfold md_clo at hc; exact ((Bool.and_eq_true _ _).mp hc).1
  exact hk.2 _ _ ⟨hl3.1.1, hl4.2.1⟩ ⟨hl3.2.1.1, hl4.2.2.1⟩ (hk.1 l hl (by have := hl3.2.2.1; omega) hgd)

end MD29
