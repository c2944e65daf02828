section MD13
def md_scr (m a : Nat) : Prop := a = m + 14 ∨ a = m + 16 ∨ a = m + 18 ∨ a = m + 20 ∨ a = m + 22 ∨ a = m + 24 ∨ a = m + 26
/-- the same but for the model's scratch rows -/
def md_like (m : Nat) (σ σb : jk_I) : Prop := (∀ a, ¬ md_scr m a → σb a = σ a) ∧ md_z σb m ∧ md_z10 σb m
/-- behind a query that set thrown to k -/
def md_post (m : Nat) (σ σ' : jk_I) (O : Int → Int) (k : Int) : Prop := σ' m = jk_set O 12 k ∧ (∀ a, ¬ md_scr m a → a ≠ m → σ' a = σ a) ∧ md_z σ' m ∧ md_z10 σ' m
def md_Q (m : Nat) (σ : jk_I) (O : Int → Int) (n : Nat) (t : jk_T) (ρ : jk_P) (k : Int) (v : Value) : jk_Q := fun v' n' t' σ' ρ' => v' = some v ∧ n' = n ∧ t' = t ∧ ρ' = ρ ∧ md_post m σ σ' O k
theorem md_scr_m (m : Nat) : ¬ md_scr m m := by unfold md_scr; omega
theorem md_post_th {m : Nat} {σ σb : jk_I} {O : Int → Int} {k : Int} (h : md_like m σ σb) : md_post m σ (md_th σb m O k) O k :=
  ⟨jk_row_same _ _ _, fun a h1 h2 => (jk_row_ne _ _ h2).trans (h.1 a h1), md_z_row h.2.1 _ ⟨by omega, by omega, by omega⟩, md_z10_row h.2.2 _ ⟨by omega, by omega, by omega, by omega⟩⟩
theorem md_like_rf {m : Nat} {σ : jk_I} (hz : md_z σ m) (hz1 : md_z10 σ m) : md_like m σ σ := ⟨fun _ _ => rfl, hz, hz1⟩
theorem md_like_gr {B : Int} {g : Int → Int} (hi : md_inv B g) {m : Nat} {σ σb : jk_I} (h : md_like m σ σb) : md_like m σ (md_gr σb m g) :=
  ⟨fun a h1 => (md_gr_ne _ _ _ (by unfold md_scr at h1; exact ⟨by omega, by omega, by omega, by omega⟩)).trans (h.1 a h1), (md_gr_z hi h.2.1 h.2.2).1, (md_gr_z hi h.2.1 h.2.2).2⟩
theorem md_post_gr {B : Int} {g : Int → Int} (hi : md_inv B g) {m : Nat} {σ σ1 : jk_I} {O : Int → Int} {k : Int} (h : md_post m σ σ1 O k) : md_post m σ (md_gr σ1 m g) O k :=
  ⟨(md_gr_ne _ _ _ ⟨by omega, by omega, by omega, by omega⟩).trans h.1, fun a h1 h2 => (md_gr_ne _ _ _ (by unfold md_scr at h1; exact ⟨by omega, by omega, by omega, by omega⟩)).trans (h.2.1 a h1 h2), (md_gr_z hi h.2.2.1 h.2.2.2).1, (md_gr_z hi h.2.2.1 h.2.2.2).2⟩
theorem md_qi {n : Nat} {t : jk_T} {σ σ' : jk_I} {ρ : jk_P} {m : Nat} {O : Int → Int} {r : Int × Int} {k v : Int} (hr : r = (k, v)) (hp : md_post m σ σ' O k) : md_Q m σ O n t ρ r.1 (jI r.2) (some (jI v)) n t σ' ρ := by subst hr; exact ⟨rfl, rfl, rfl, rfl, hp⟩
theorem md_qb {n : Nat} {t : jk_T} {σ σ' : jk_I} {ρ : jk_P} {m : Nat} {O : Int → Int} {r : Int × Bool} {k : Int} {v : Bool} {x : Int} (hr : r = (k, v)) (hx : x = jB v) (hp : md_post m σ σ' O k) : md_Q m σ O n t ρ r.1 (jI (jB r.2)) (some (jI x)) n t σ' ρ := by subst hr hx; exact ⟨rfl, rfl, rfl, rfl, hp⟩
/-- levels are not too far from 0 -/
def md_vb (s : md_SS) : Prop := ∀ p, -1109999 * md_cnt s.1 ≤ s.2 p ∧ s.2 p ≤ 1109999 * md_cnt s.1
theorem md_pass_vb {B : Int} {g T : Int → Int} (hi : md_inv B g) {s : md_SS} (h : md_kb s.1) (hv : md_vb s) {l : Int} (hl : 0 ≤ l ∧ l < 16) : md_vb (md_pass g T s l) := by
  intro p
  rw [md_pass_cnt hi h hl]
  have hc := md_cor_bd hi hl
  have ha := hv (g (24 + l))
  have hb := hv (g (40 + l))
  have hp := hv p
  unfold md_pass md_passB
  by_cases hq : T l = 0 ∨ s.1 (g (24 + l)) = s.1 (g (40 + l))
  · rw [if_pos hq, decide_eq_true hq]; show _ * (_ + jB false) ≤ _ ∧ _ ≤ _ * (_ + jB false); rw [jB_f, Int.add_zero]; exact hp
  · rw [if_neg hq, decide_eq_false hq]
    show _ * (_ + jB true) ≤ (if s.1 (g (24 + l)) = 0 then _ else _ : Int → Int) p ∧ (if s.1 (g (24 + l)) = 0 then _ else _ : Int → Int) p ≤ _ * (_ + jB true)
    rw [jB_t]
    split <;> (unfold jk_set; split <;> omega)
theorem md_pl_vb {B : Int} {g T : Int → Int} (hi : md_inv B g) {s : md_SS} (h : md_kb s.1) (hv : md_vb s) : ∀ k : Nat, k ≤ 16 → md_vb (md_pl g T k s)
  | 0, _ => hv
  | k + 1, hk => md_pass_vb hi (md_pl_kb h k) (md_pl_vb hi h hv k (by omega)) ⟨by omega, by omega⟩
theorem md_it_vb {B : Int} {g : Int → Int} (hi : md_inv B g) : ∀ j, md_vb (md_it g j)
  | 0 => fun p => by
    have h : 0 ≤ md_cnt (md_it g 0).1 := jk_sum_nn _ (fun p => by show (0 : Int) ≤ (if (0 ≤ p ∧ p < 10) ∧ md_Ro g p = p then 1 else 0); split <;> decide) 10
    show _ ≤ (0 : Int) ∧ (0 : Int) ≤ _
    omega
  | j + 1 => md_pl_vb hi (md_it_kb g j) (md_it_vb hi j) _ (by have := hi.2.1; omega)
theorem md_fin_bd {B : Int} {g : Int → Int} (hi : md_inv B g) (p : Int) : -11099990 ≤ (md_fin g).2 p ∧ (md_fin g).2 p ≤ 11099990 := by
  have h := md_it_vb hi 11 p
  have h1 := jk_sum_bd2 (f := (md_it g 11).1) (a := 0) (b := 1) 10 (fun i a b => by have := md_it_kb g 11 i ⟨a, by omega⟩; omega)
  unfold md_cnt at h
  unfold md_fin
  omega
/-- datum, who has a height, the heights, in the state g -/
def md_D (g : Int → Int) (p : Int) : Int := md_dat g (md_Ro g) p
def md_H (g : Int → Int) (p : Int) : Bool := md_hi g (md_Ro g) p
def md_HT (g : Int → Int) (p : Int) : Int := md_ht g (md_Ro g) (md_fin g).2 p
theorem md_dat_bd {B : Int} {g r : Int → Int} (hi : md_inv B g) (p : Int) : -1 ≤ md_dat g r p ∧ md_dat g r p < 10 := by
  have h := jk_fnd_bd (md_datP g r p) (g 0).toNat
  have := hi.1
  unfold md_dat; omega
theorem md_hi_t {g r : Int → Int} {p : Int} (h : md_hi g r p = true) : md_dat g r p ≠ -1 := of_decide_eq_true h
theorem md_hi_f {g r : Int → Int} {p : Int} (h : md_hi g r p = false) : md_dat g r p = -1 := Decidable.byContradiction (fun hc => of_decide_eq_false h hc)
theorem md_HT_bd {B : Int} {g : Int → Int} (hi : md_inv B g) {p : Int} (hp : 0 ≤ p ∧ p < 10) (hh : md_hi g (md_Ro g) p = true) : -22299979 ≤ md_HT g p ∧ md_HT g p ≤ 22299979 := by
  have h1 := md_hi_t hh
  have h2 := md_dat_bd (r := md_Ro g) hi p
  obtain ⟨q1, q2, q3⟩ := md_inv_pt hi hp
  obtain ⟨r1, r2, r3⟩ := md_inv_pt hi (p := md_dat g (md_Ro g) p) ⟨by omega, by omega⟩
  have h3 := md_fin_bd hi p
  have h4 := md_fin_bd hi (md_dat g (md_Ro g) p)
  unfold md_HT md_ht md_byd
  split <;> omega
theorem md_dat_fx {B : Int} {g r : Int → Int} (hi : md_inv B g) {p : Int} (hp : 0 ≤ p ∧ p < 10) (hp2 : p < g 0) (hf : ¬ g (4 + p) = 0) : md_dat g r p ≠ -1 := by
  have h1 := (md_inv_pt hi hp).1
  unfold md_dat
  have key : ∀ N : Nat, p < (N : Int) → jk_fnd (md_datP g r p) N ≠ -1 := by
    intro N
    induction N with
    | zero => intro h; omega
    | succ N ih =>
      intro h
      unfold jk_fnd
      by_cases hN : p < (N : Int)
      · have := ih hN
        rw [if_neg this]; exact this
      · have e : (N : Int) = p := by omega
        split
        · rw [e, if_pos (by unfold md_datP; simp; omega)]; omega
        · assumption
  exact key _ (by omega)
def md_q_bc (g : Int → Int) : Int × Int := (0, g 0)
def md_q_lc (g : Int → Int) : Int × Int := (0, g 1)
def md_q_pc (g : Int → Int) : Int × Int := (0, g 2)
def md_q_wl (g : Int → Int) : Int × Int := (0, g 3)
def md_q_fx (g : Int → Int) (p : Int) : Int × Bool := if md_in p 0 (g 0 - 1) = false then (1, false) else (0, decide (g (4 + p) = 1))
def md_q_hh (g : Int → Int) (p : Int) : Int × Bool := if md_in p 0 (g 0 - 1) = false then (1, false) else (0, md_H g p)
def md_q_ht (g : Int → Int) (p : Int) : Int × Int := if md_in p 0 (g 0 - 1) = false then (1, 0) else if md_H g p = true then (0, md_HT g p) else (2, 0)
def md_q_ce (g : Int → Int) (p : Int) : Int × Int := if md_in p 0 (g 0 - 1) = false then (1, 0) else if g (4 + p) = 0 then (2, 0) else (0, md_byd g (md_Ro g) (md_fin g).2 p - g (14 + p))
def md_q_da (g : Int → Int) (p : Int) : Int × Int := if md_in p 0 (g 0 - 1) = false then (1, 0) else if md_H g p = true then (0, md_D g p) else (2, 0)
def md_q_ln (g : Int → Int) (at_ l : Int) : Int × Int := if md_in l 0 (g 1 - 1) = false then (1, 0) else (0, g (at_ + l))
def md_q_lv (g : Int → Int) (l : Int) : Int × Int := if md_in l 0 (g 1 - 1) = false then (1, 0) else (0, md_lev g l)
def md_q_di (g : Int → Int) (l : Int) : Int × Int := if md_in l 0 (g 1 - 1) = false then (1, 0) else if g (88 + l) = 1 then (0, md_gap g l) else (2, 0)
def md_q_us (g : Int → Int) (l : Int) : Int × Bool := if md_in l 0 (g 1 - 1) = false then (1, false) else (0, md_good g l)
def md_q_to (_ : Int → Int) (len : Int) : Int × Int := if md_in len 0 800 = false then (1, 0) else (0, md_tol len)
def md_q_if (g : Int → Int) (l : Int) : Int × Bool := if md_in l 0 (g 1 - 1) = false then (1, false) else (0, decide (md_T g l = 1))
end MD13
