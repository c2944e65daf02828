section MD10
theorem md_clr_S (g : Int → Int) (k : Nat) : jk_set (md_clr g (k : Int)) (136 + (k : Int)) 0 = md_clr g ((k + 1 : Nat) : Int) := by
  funext p
  unfold jk_set md_clr
  by_cases hp : p = 136 + (k : Int)
  · subst hp; rw [if_pos rfl, if_pos (by omega)]
  · rw [if_neg hp]
    by_cases h : 136 ≤ p ∧ p < 136 + (k : Int)
    · rw [if_pos h, if_pos (by omega)]
    · rw [if_neg h, if_neg (by omega)]
theorem md_clr_0 (g : Int → Int) : md_clr g ((0 : Nat) : Int) = g := by funext p; unfold md_clr; rw [if_neg (by omega)]
def md_zf (k : Int) (f : Int → Int) : Prop := ∀ p, p < 0 ∨ k ≤ p → f p = 0
theorem md_zf_set {k : Int} {f : Int → Int} (h : md_zf k f) {i v : Int} (hi : 0 ≤ i ∧ i < k) : md_zf k (jk_set f i v) := fun p hp => by
  rw [jk_set_ne _ _ (by omega)]; exact h p hp
theorem md_take_z {B : Int} {g : Int → Int} (hi : md_inv B g) {s : md_SS} (h : md_zf 16 s.1 ∧ md_zf 10 s.2) {l : Int} (hl : 0 ≤ l ∧ l < 16) : md_zf 16 (md_take g s l).1 ∧ md_zf 10 (md_take g s l).2 := by
  unfold md_take
  split
  · refine ⟨md_zf_set h.1 hl, fun p hp => ?_⟩
    show md_uni s.2 (g 0) _ _ p = 0
    unfold md_uni
    have := hi.1
    rw [if_neg (by omega)]
    exact h.2 p hp
  · exact h
theorem md_li_z {B : Int} {g : Int → Int} (hi : md_inv B g) {L : Int} {s : md_SS} (h : md_zf 16 s.1 ∧ md_zf 10 s.2) : ∀ k : Nat, k ≤ 16 → md_zf 16 (md_li g L k s).1 ∧ md_zf 10 (md_li g L k s).2
  | 0, _ => h
  | k + 1, hk => by
    unfold md_li
    split
    · exact md_take_z hi (md_li_z hi h k (by omega)) ⟨by omega, by omega⟩
    · exact md_li_z hi h k (by omega)
theorem md_kr_z {B : Int} {g : Int → Int} (hi : md_inv B g) : ∀ L : Nat, md_zf 16 (md_kr g L).1 ∧ md_zf 10 (md_kr g L).2
  | 0 => ⟨fun _ _ => rfl, fun p hp => by show (if 0 ≤ p ∧ p < 10 then p else 0) = 0; rw [if_neg (by omega)]⟩
  | L + 1 => md_li_z hi (md_kr_z hi L) _ (by have := hi.2.1; omega)
theorem md_pass_z {B : Int} {g T : Int → Int} (hi : md_inv B g) {s : md_SS} (h : md_zf 10 s.1 ∧ md_zf 10 s.2) {l : Int} (hl : 0 ≤ l ∧ l < 16) : md_zf 10 (md_pass g T s l).1 ∧ md_zf 10 (md_pass g T s l).2 := by
  obtain ⟨a, b, -⟩ := md_inv_ln hi hl
  unfold md_pass
  split
  · exact h
  · refine ⟨md_zf_set (md_zf_set h.1 a) b, ?_⟩
    show md_zf 10 (if _ then _ else _)
    split
    · exact md_zf_set h.2 a
    · exact md_zf_set h.2 b
theorem md_pl_z {B : Int} {g T : Int → Int} (hi : md_inv B g) {s : md_SS} (h : md_zf 10 s.1 ∧ md_zf 10 s.2) : ∀ k : Nat, k ≤ 16 → md_zf 10 (md_pl g T k s).1 ∧ md_zf 10 (md_pl g T k s).2
  | 0, _ => h
  | k + 1, hk => md_pass_z hi (md_pl_z hi h k (by omega)) ⟨by omega, by omega⟩
theorem md_it_z {B : Int} {g : Int → Int} (hi : md_inv B g) : ∀ j : Nat, md_zf 10 (md_it g j).1 ∧ md_zf 10 (md_it g j).2
  | 0 => ⟨fun p hp => by show (if (0 ≤ p ∧ p < 10) ∧ md_Ro g p = p then (1 : Int) else 0) = 0; rw [if_neg (by omega)], fun _ _ => rfl⟩
  | j + 1 => md_pl_z hi (md_it_z hi j) _ (by have := hi.2.1; omega)
theorem md_gr_at (σ : jk_I) (m : Nat) (g : Int → Int) : md_gr σ m g (m + 14) = md_T g ∧ md_gr σ m g (m + 16) = md_Ro g ∧ md_gr σ m g (m + 20) = (md_fin g).1 ∧ md_gr σ m g (m + 18) = (md_fin g).2 := by
  unfold md_gr
  refine ⟨?_, ?_, ?_, jk_row_same _ _ _⟩
  · rw [jk_row_ne _ _ (by omega), jk_row_ne _ _ (by omega), jk_row_ne _ _ (by omega), jk_row_same]
  · rw [jk_row_ne _ _ (by omega), jk_row_ne _ _ (by omega), jk_row_same]
  · rw [jk_row_ne _ _ (by omega), jk_row_same]
theorem md_gr_ne (σ : jk_I) (m : Nat) (g : Int → Int) {a : Nat} (h : a ≠ m + 14 ∧ a ≠ m + 16 ∧ a ≠ m + 18 ∧ a ≠ m + 20) : md_gr σ m g a = σ a := by
  unfold md_gr
  rw [jk_row_ne _ _ h.2.2.1, jk_row_ne _ _ h.2.2.2, jk_row_ne _ _ h.2.1, jk_row_ne _ _ h.1]
theorem md_gr_z {B : Int} {g : Int → Int} (hi : md_inv B g) {σ : jk_I} {m : Nat} (hz : md_z σ m) (hz1 : md_z10 σ m) : md_z (md_gr σ m g) m ∧ md_z10 (md_gr σ m g) m := by
  obtain ⟨a, b, c, d⟩ := md_gr_at σ m g
  refine ⟨fun p hp => ⟨?_, ?_, ?_⟩, fun p hp => ⟨?_, ?_, ?_, ?_⟩⟩
  · rw [a]; exact (md_kr_z hi 50).1 p hp
  · rw [md_gr_ne _ _ _ ⟨by omega, by omega, by omega, by omega⟩]; exact (hz p hp).2.1
  · rw [md_gr_ne _ _ _ ⟨by omega, by omega, by omega, by omega⟩]; exact (hz p hp).2.2
  · rw [b]; exact (md_kr_z hi 50).2 p hp
  · rw [d]; exact (md_it_z hi 11).2 p hp
  · rw [c]; exact (md_it_z hi 11).1 p hp
  · rw [md_gr_ne _ _ _ ⟨by omega, by omega, by omega, by omega⟩]; exact (hz1 p hp).2.2.2
/-- every line that closes a loop can be gone around -/
def md_loops (g : Int → Int) : Prop := ∀ l, 0 ≤ l ∧ l < g 1 → md_clo g (md_T g) l = true → ∃ J, md_ok g (md_reach g (md_T g) (g (24 + l))).2 (g (40 + l)) (g (24 + l)) J
def md_lp (σ : jk_I) (m : Nat) (g : Int → Int) (l : Int) : jk_I := jk_row (jk_row (jk_row (md_gr σ m g) (m + 26) (md_reach g (md_T g) (g (24 + l))).2) (m + 20) (md_reach g (md_T g) (g (24 + l))).1) (m + 22) (md_sgn g (md_T g) l)
def md_why (g : Int → Int) (l : Int) : Int := if md_in l 0 (g 1 - 1) = false then 1 else if md_clo g (md_T g) l = false then 2 else 0
def md_whyS (σ : jk_I) (m : Nat) (g : Int → Int) (l : Int) : jk_I := if md_in l 0 (g 1 - 1) = false then σ else if md_clo g (md_T g) l = false then md_gr σ m g else md_lp σ m g l
theorem md_qw {n : Nat} {t : jk_T} {σ σ' : jk_I} {ρ : jk_P} {m : Nat} {g : Int → Int} {l v : Int} (h1 : md_why g l = v) (h2 : md_whyS σ m g l = σ') : jk_q (some (jI (md_why g l))) n t (md_whyS σ m g l) ρ (some (jI v)) n t σ' ρ := by subst h1 h2; exact jk_qr
end MD10
