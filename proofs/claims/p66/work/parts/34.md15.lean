section MD15
def md_abv (g : Int → Int) (x p : Int) : Bool := decide (0 < md_HT g x - md_HT g p ∨ (md_HT g x - md_HT g p = 0 ∧ x < p))
def md_wrs (g : Int → Int) (x l : Int) : Bool := decide (0 < md_abs (md_gap g x) - md_abs (md_gap g l) ∨ (md_abs (md_gap g x) - md_abs (md_gap g l) = 0 ∧ x < l))
theorem md_sumB2 (P : Int → Bool) (k : Nat) : 0 ≤ jk_sum (fun j => jB (P j)) k ∧ jk_sum (fun j => jB (P j)) k ≤ (k : Int) := md_sumB P k
def md_hcnt (g : Int → Int) (p : Int) : Int := jk_sum (fun x => jB (md_hi g (md_Ro g) x && md_abv g x p)) (g 0).toNat
def md_bhP (g : Int → Int) (r : Int) : Int → Bool := fun p => md_hi g (md_Ro g) p && decide (md_hcnt g p = r)
def md_q_bh (g : Int → Int) (r : Int) : Int × Int := if jk_fnd (md_bhP g r) (g 0).toNat = -1 then (1, 0) else (0, jk_fnd (md_bhP g r) (g 0).toNat)
def md_lcnt (g : Int → Int) (l : Int) : Int := jk_sum (fun x => jB (decide (g (88 + x) = 1) && md_wrs g x l)) (g 1).toNat
def md_ldP (g : Int → Int) (r : Int) : Int → Bool := fun l => decide (g (88 + l) = 1) && decide (md_lcnt g l = r)
def md_q_ld (g : Int → Int) (r : Int) : Int × Int := if jk_fnd (md_ldP g r) (g 1).toNat = -1 then (1, 0) else (0, jk_fnd (md_ldP g r) (g 1).toNat)
theorem md_rp_z {B : Int} {g T : Int → Int} (hi : md_inv B g) {s : md_SS} (h : md_zf 10 s.1 ∧ md_zf 10 s.2) {l : Int} (hl : 0 ≤ l ∧ l < 16) : md_zf 10 (md_rp g T s l).1 ∧ md_zf 10 (md_rp g T s l).2 := by
  obtain ⟨a, b, -⟩ := md_inv_ln hi hl
  unfold md_rp
  split
  · refine ⟨md_zf_set (md_zf_set h.1 a) b, ?_⟩
    show md_zf 10 (jk_set s.2 (if _ then _ else _) l)
    split
    · exact md_zf_set h.2 a
    · exact md_zf_set h.2 b
  · exact h
theorem md_rl_z {B : Int} {g T : Int → Int} (hi : md_inv B g) {s : md_SS} (h : md_zf 10 s.1 ∧ md_zf 10 s.2) : ∀ k : Nat, k ≤ 16 → md_zf 10 (md_rl g T k s).1 ∧ md_zf 10 (md_rl g T k s).2
  | 0, _ => h
  | k + 1, hk => md_rp_z hi (md_rl_z hi h k (by omega)) ⟨by omega, by omega⟩
theorem md_reach_z {B : Int} {g T : Int → Int} (hi : md_inv B g) {f : Int} (hf : 0 ≤ f ∧ f < 10) : ∀ j : Nat, md_zf 10 (md_rr g T f j).1 ∧ md_zf 10 (md_rr g T f j).2
  | 0 => ⟨fun p hp => by show (if 0 ≤ p ∧ p < 10 then (if p = f then (1 : Int) else 0) else 0) = 0; rw [if_neg (by omega)], fun p hp => by show (if 0 ≤ p ∧ p < 10 then (-1 : Int) else 0) = 0; rw [if_neg (by omega)]⟩
  | j + 1 => md_rl_z hi (md_reach_z hi hf j) _ (by have := hi.2.1; omega)
theorem md_like_lp {B : Int} {g : Int → Int} (hi : md_inv B g) {m : Nat} {σ : jk_I} (hz : md_z σ m) (hz1 : md_z10 σ m) {l : Int} (hl : 0 ≤ l ∧ l < 16) {J : Nat} (h : md_ok g (md_reach g (md_T g) (g (24 + l))).2 (g (40 + l)) (g (24 + l)) J) : md_like m σ (md_lp σ m g l) := by
  refine ⟨fun a ha => ?_, fun p hp => ⟨?_, ?_, ?_⟩, fun p hp => ⟨?_, ?_, ?_, ?_⟩⟩
  · unfold md_scr at ha; exact md_lp_ne _ _ _ _ ⟨by omega, by omega, by omega, by omega, by omega, by omega⟩
  · rw [show md_lp σ m g l (m + 14) = md_T g by unfold md_lp; rw [jk_row_ne _ _ (by omega), jk_row_ne _ _ (by omega), jk_row_ne _ _ (by omega)]; exact (md_gr_at σ m g).1]; exact (md_kr_z hi 50).1 p hp
  · rw [md_lp_sg]; exact md_sgn_z hl h p hp
  · rw [md_lp_ne _ _ _ _ ⟨by omega, by omega, by omega, by omega, by omega, by omega⟩]; exact (hz p hp).2.2
  · rw [show md_lp σ m g l (m + 16) = md_Ro g by unfold md_lp; rw [jk_row_ne _ _ (by omega), jk_row_ne _ _ (by omega), jk_row_ne _ _ (by omega)]; exact (md_gr_at σ m g).2.1]; exact (md_kr_z hi 50).2 p hp
  · rw [show md_lp σ m g l (m + 18) = (md_fin g).2 by unfold md_lp; rw [jk_row_ne _ _ (by omega), jk_row_ne _ _ (by omega), jk_row_ne _ _ (by omega)]; exact (md_gr_at σ m g).2.2.2]; exact (md_it_z hi 11).2 p hp
  · rw [show md_lp σ m g l (m + 20) = (md_reach g (md_T g) (g (24 + l))).1 by unfold md_lp; rw [jk_row_ne _ _ (by omega), jk_row_same]]; exact (md_reach_z hi (md_inv_ln hi hl).1 10).1 p hp
  · rw [show md_lp σ m g l (m + 26) = (md_reach g (md_T g) (g (24 + l))).2 by unfold md_lp; rw [jk_row_ne _ _ (by omega), jk_row_ne _ _ (by omega), jk_row_same]]; exact (md_reach_z hi (md_inv_ln hi hl).1 10).2 p hp
theorem md_like_why {B : Int} {g : Int → Int} (hi : md_inv B g) {m : Nat} {σ : jk_I} (hz : md_z σ m) (hz1 : md_z10 σ m) (hJ : md_loops g) (l : Int) : md_like m σ (md_whyS σ m g l) := by
  unfold md_whyS
  split
  · exact md_like_rf hz hz1
  · rename_i h1
    have h2 := md_inT (by simpa using h1 : md_in l 0 (g 1 - 1) = true)
    have hg1 := hi.2.1
    split
    · exact md_like_gr hi (md_like_rf hz hz1)
    · rename_i h3
      obtain ⟨J, h4⟩ := hJ l ⟨by omega, by omega⟩ (by simpa using h3)
      exact md_like_lp hi hz hz1 ⟨by omega, by omega⟩ h4
theorem md_like_row {m : Nat} {σ σb : jk_I} (h : md_like m σ σb) {a : Nat} {x : Int → Int} (ha : a = m + 24) (hx : md_zf 16 x) : md_like m σ (jk_row σb a x) := by
  subst ha
  refine ⟨fun b hb => (jk_row_ne _ _ (by unfold md_scr at hb; omega)).trans (h.1 b hb), fun p hp => ?_, md_z10_row h.2.2 _ ⟨by omega, by omega, by omega, by omega⟩⟩
  rw [jk_row_ne _ _ (by omega), jk_row_ne _ _ (by omega), jk_row_same]
  exact ⟨(h.2.1 p hp).1, (h.2.1 p hp).2.1, hx p hp⟩
def md_q_ls (g : Int → Int) (l : Int) : Int × Int := if 0 < md_why g l then (md_why g l, 0) else (0, jk_sum (fun x => if md_sgn g (md_T g) l x = 0 then 0 else 1) (g 1).toNat)
def md_q_ll (g : Int → Int) (l : Int) : Int × Int := if 0 < md_why g l then (md_why g l, 0) else (0, md_len g (md_sgn g (md_T g) l))
def md_q_mc (g : Int → Int) (l : Int) : Int × Int := if 0 < md_why g l then (md_why g l, 0) else (0, md_err g (md_sgn g (md_T g) l))
def md_q_pt (g : Int → Int) (l x : Int) : Int × Int := if md_in l 0 (g 1 - 1) = false ∨ md_in x 0 (g 1 - 1) = false then (1, 0) else if 0 < md_why g l then (md_why g l, 0) else (0, md_parts g (md_sgn g (md_T g) l) x)
end MD15
