section MD4
abbrev md_SS : Type := (Int → Int) × (Int → Int)
theorem jk_sum_set (f : Int → Int) (i v : Int) : ∀ k : Nat, jk_sum (jk_set f i v) k = jk_sum f k + (if 0 ≤ i ∧ i < (k : Int) then v - f i else 0)
  | 0 => by rw [if_neg (by omega)]; rfl
  | k + 1 => by
    show jk_sum (jk_set f i v) k + jk_set f i v (k : Int) = jk_sum f k + f (k : Int) + _
    rw [jk_sum_set f i v k]
    unfold jk_set
    by_cases h : (k : Int) = i
    · subst h; rw [if_pos rfl, if_neg (by omega), if_pos (by omega)]; omega
    · rw [if_neg h]
      by_cases h2 : 0 ≤ i ∧ i < (k : Int)
      · rw [if_pos h2, if_pos (by omega)]; omega
      · rw [if_neg h2, if_neg (by omega)]; omega
def md_li (g : Int → Int) (L : Int) : Nat → md_SS → md_SS
  | 0, s => s
  | k + 1, s => if g (56 + (k : Int)) = L then md_take g (md_li g L k s) (k : Int) else md_li g L k s
def md_kr (g : Int → Int) : Nat → md_SS
  | 0 => (fun _ => 0, fun p => if 0 ≤ p ∧ p < 10 then p else 0)
  | L + 1 => md_li g ((L : Int) + 1) (g 1).toNat (md_kr g L)
/-- the lines of the forest, and the roots -/
def md_T (g : Int → Int) : Int → Int := (md_kr g 50).1
def md_Ro (g : Int → Int) : Int → Int := (md_kr g 50).2
theorem md_in_tr {B : Int} {g : Int → Int} (hi : md_inv B g) {L : Int} {s : md_SS} (h : md_tr s) : ∀ k : Nat, k ≤ 16 → md_tr (md_li g L k s)
  | 0, _ => h
  | k + 1, hk => by
    unfold md_li
    split
    · exact md_take_tr hi (md_in_tr hi h k (by omega)) ⟨by omega, by omega⟩
    · exact md_in_tr hi h k (by omega)
theorem md_kr_tr {B : Int} {g : Int → Int} (hi : md_inv B g) : ∀ L : Nat, md_tr (md_kr g L)
  | 0 => ⟨fun _ _ => Or.inl rfl, fun p hp => by show 0 ≤ (if 0 ≤ p ∧ p < 10 then p else 0) ∧ (if 0 ≤ p ∧ p < 10 then p else 0) < 10; rw [if_pos hp]; exact hp⟩
  | L + 1 => md_in_tr hi (md_kr_tr hi L) _ (by have := hi.2.1; omega)
def md_pl (g T : Int → Int) : Nat → md_SS → md_SS
  | 0, s => s
  | k + 1, s => md_pass g T (md_pl g T k s) (k : Int)
def md_ch (g T : Int → Int) : Nat → md_SS → Bool
  | 0, _ => false
  | k + 1, s => md_passB g T (md_pl g T k s) (k : Int) || md_ch g T k s
def md_full (g : Int → Int) (s : md_SS) : md_SS := md_pl g (md_T g) (g 1).toNat s
def md_it (g : Int → Int) : Nat → md_SS
  | 0 => (fun p => if (0 ≤ p ∧ p < 10) ∧ md_Ro g p = p then 1 else 0, fun _ => 0)
  | j + 1 => md_full g (md_it g j)
/-- who has a level, and the levels -/
def md_fin (g : Int → Int) : md_SS := md_it g 11
def md_kb (K : Int → Int) : Prop := ∀ p, 0 ≤ p ∧ p < 10 → K p = 0 ∨ K p = 1
def md_cnt (K : Int → Int) : Int := jk_sum K 10
theorem md_set_kb {K : Int → Int} (h : md_kb K) (i : Int) : md_kb (jk_set K i 1) := fun p hp => by
  unfold jk_set; split
  · exact Or.inr rfl
  · exact h p hp
theorem md_pass_kb {g T : Int → Int} {s : md_SS} (h : md_kb s.1) (l : Int) : md_kb (md_pass g T s l).1 := by
  unfold md_pass; split
  · exact h
  · exact md_set_kb (md_set_kb h _) _
theorem md_pl_kb {g T : Int → Int} {s : md_SS} (h : md_kb s.1) : ∀ k, md_kb (md_pl g T k s).1
  | 0 => h
  | k + 1 => md_pass_kb (md_pl_kb h k) _
theorem md_it_kb (g : Int → Int) : ∀ j, md_kb (md_it g j).1
  | 0 => fun p _ => by
    show (if _ then _ else _) = _ ∨ (if _ then _ else _) = _
    split
    · exact Or.inr rfl
    · exact Or.inl rfl
  | j + 1 => md_pl_kb (md_it_kb g j) _
theorem md_pass_cnt {B : Int} {g T : Int → Int} (hi : md_inv B g) {s : md_SS} (h : md_kb s.1) {l : Int} (hl : 0 ≤ l ∧ l < 16) : md_cnt (md_pass g T s l).1 = md_cnt s.1 + jB (md_passB g T s l) := by
  obtain ⟨a, b, -⟩ := md_inv_ln hi hl
  have ha := h _ a
  have hb := h _ b
  unfold md_pass md_passB
  by_cases hc : T l = 0 ∨ s.1 (g (24 + l)) = s.1 (g (40 + l))
  · rw [if_pos hc, decide_eq_true hc]; show _ = _ + jB false; rw [jB_f]; omega
  · rw [if_neg hc, decide_eq_false hc]
    show md_cnt (jk_set (jk_set s.1 (g (24 + l)) 1) (g (40 + l)) 1) = _ + jB true
    unfold md_cnt
    rw [jk_sum_set, jk_sum_set, if_pos (by omega), if_pos (by omega), jB_t]
    have hne : ¬ g (40 + l) = g (24 + l) := fun e => hc (Or.inr (by rw [e]))
    have e : jk_set s.1 (g (24 + l)) 1 (g (40 + l)) = s.1 (g (40 + l)) := if_neg hne
    rw [e]
    omega
theorem md_pl_cnt {B : Int} {g T : Int → Int} (hi : md_inv B g) {s : md_SS} (h : md_kb s.1) : ∀ k : Nat, k ≤ 16 → md_cnt s.1 + jB (md_ch g T k s) ≤ md_cnt (md_pl g T k s).1
  | 0, _ => by show _ + jB false ≤ _; rw [jB_f]; exact Int.le_of_eq (Int.add_zero _)
  | k + 1, hk => by
    have h1 := md_pl_cnt hi h (T := T) k (by omega)
    have h2 := md_pass_cnt hi (T := T) (md_pl_kb (g := g) (T := T) h k) (l := (k : Int)) ⟨by omega, by omega⟩
    show _ + jB (md_passB g T (md_pl g T k s) (k : Int) || md_ch g T k s) ≤ md_cnt (md_pass g T (md_pl g T k s) (k : Int)).1
    rw [h2]
    cases md_passB g T (md_pl g T k s) (k : Int) <;> cases hq : md_ch g T k s <;> rw [hq] at h1 <;> simp only [Bool.or_true, Bool.or_false, jB_t, jB_f] at h1 ⊢ <;> omega
theorem md_pass_same {g T : Int → Int} {s : md_SS} {l : Int} (h : md_passB g T s l = false) : md_pass g T s l = s := by
  unfold md_passB at h
  unfold md_pass
  rw [if_pos (of_decide_eq_true (by simpa only [Bool.not_eq_false'] using h))]
theorem md_pl_same {g T : Int → Int} {s : md_SS} : ∀ k : Nat, md_ch g T k s = false → md_pl g T k s = s
  | 0, _ => rfl
  | k + 1, h => by
    unfold md_ch at h
    rw [Bool.or_eq_false_iff] at h
    have e := md_pl_same k h.2
    unfold md_pl
    rw [md_pass_same h.1, e]
theorem md_it_stab {g : Int → Int} {j : Nat} (h : md_full g (md_it g j) = md_it g j) : ∀ d, md_it g (j + d) = md_it g j
  | 0 => rfl
  | d + 1 => by show md_full g (md_it g (j + d)) = _; rw [md_it_stab h d]; exact h
/-- the heap behind the model's search -/
def md_gr (σ : jk_I) (m : Nat) (g : Int → Int) : jk_I := jk_row (jk_row (jk_row (jk_row σ (m + 14) (md_T g)) (m + 16) (md_Ro g)) (m + 20) (md_fin g).1) (m + 18) (md_fin g).2
/-- the scratch rows are 0 beyond their ends -/
def md_z (σ : jk_I) (m : Nat) : Prop := ∀ p, p < 0 ∨ 16 ≤ p → σ (m + 14) p = 0 ∧ σ (m + 22) p = 0 ∧ σ (m + 24) p = 0
def md_z10 (σ : jk_I) (m : Nat) : Prop := ∀ p, p < 0 ∨ 10 ≤ p → σ (m + 16) p = 0 ∧ σ (m + 18) p = 0 ∧ σ (m + 20) p = 0 ∧ σ (m + 26) p = 0
theorem jk_fill_all {r0 f : Int → Int} {k : Nat} (h : ∀ p, p < 0 ∨ (k : Int) ≤ p → r0 p = 0) : jk_fill r0 f k = fun p => if 0 ≤ p ∧ p < (k : Int) then f p else 0 := by
  funext p; unfold jk_fill
  by_cases hp : 0 ≤ p ∧ p < (k : Int)
  · rw [if_pos hp, if_pos hp]
  · rw [if_neg hp, if_neg hp]; exact h p (by omega)
theorem jk_sum_cong {f f2 : Int → Int} : ∀ k : Nat, (∀ i, 0 ≤ i → i < (k : Int) → f i = f2 i) → jk_sum f k = jk_sum f2 k
  | 0, _ => rfl
  | k + 1, h => by
    show jk_sum f k + f (k : Int) = jk_sum f2 k + f2 (k : Int)
    rw [jk_sum_cong k (fun i h1 h2 => h i h1 (by omega)), h (k : Int) (by omega) (by omega)]
theorem jk_sum_nn (f : Int → Int) (h : ∀ i, 0 ≤ f i) : ∀ k : Nat, 0 ≤ jk_sum f k
  | 0 => Int.le_refl _
  | k + 1 => by show 0 ≤ jk_sum f k + f (k : Int); have := jk_sum_nn f h k; have := h (k : Int); omega
end MD4
