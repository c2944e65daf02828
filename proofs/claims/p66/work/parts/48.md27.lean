section MD27
theorem md_like_shS {B : Int} {g : Int → Int} (hi : md_inv B g) {m : Nat} {σ : jk_I} (hz : md_z σ m) (hz1 : md_z10 σ m) (hJ : md_loops g) (l : Int) : md_like m σ (md_shS σ m g l) := by
  unfold md_shS
  split
  · exact md_like_why hi hz hz1 hJ l
  · rename_i h
    obtain ⟨h1, h2, h3⟩ := md_why0 (σ := σ) (m := m) h
    have h4 := md_inT h2
    have hg1 := hi.2.1
    obtain ⟨J, h5⟩ := hJ l ⟨by omega, by omega⟩ h3
    have h6 := md_like_lp hi hz hz1 (l := l) ⟨by omega, by omega⟩ h5
    split
    · exact h6
    · exact md_like_row h6 rfl (fun p hp => if_neg (by omega))
theorem md_like_doS {B : Int} {g P : Int → Int} (hi : md_inv B g) {m : Nat} {σ : jk_I} (hz : md_z σ m) (hz1 : md_z10 σ m) (hJ : md_loops g) (k : Int) : md_like m σ (md_doS σ m g P k) := by
  unfold md_doS
  split
  · exact md_like_shS hi hz hz1 hJ _
  · exact md_like_rf hz hz1
theorem md_do_ok {B : Int} {g P : Int → Int} (hi : md_inv B g) (hz : md_zf 240 g) (k : Int) : md_rok (md_do P k g) := by
  unfold md_do
  (repeat' split)
  · exact md_addsRun_ok hi hz
  · exact md_marks_ok hi hz
  · exact md_fixes_ok hi hz
  · exact md_shares_ok hi hz
  · exact md_marks_ok hi hz
  · exact md_addsLine_ok hi hz
  · exact md_addsProfile_ok hi hz
  · exact md_addsPoint_ok hi hz
  · exact md_resets_ok hi hz
  · exact md_addsStation_ok hi hz
  · exact md_releases_ok hi hz
  · exact md_setsWater_ok hi hz
def md_cf (Bf : Int → Int) (ty : Int) (P0 : Int → Int) : Nat → Nat → Nat
  | 0, j => j
  | f + 1, j => if (md_sn Bf ty P0 j).2 = false then j else md_cf Bf ty P0 f (j + 1)
/-- how many commands were read -/
def md_cn (Bf : Int → Int) (ty : Int) (P0 : Int → Int) : Nat := md_cf Bf ty P0 40 0
def md_gk (P g : Int → Int) : Nat → Int → Int
  | 0 => g
  | k + 1 => (md_do P (5 * (k : Int)) (md_gk P g k)).2.2
def md_fP (P g : Int → Int) : Int → Bool := fun k => decide ((md_do P (5 * k) (md_gk P g k.toNat)).1 ≠ 0)
def md_x (Bf : Int → Int) (ty : Int) (P0 : Int → Int) : md_TR := (md_sn Bf ty P0 (md_cn Bf ty P0)).1
def md_w2 (Bf : Int → Int) (ty : Int) (P0 : Int → Int) : Bool := (md_x Bf ty P0).1.2 || decide ((md_x Bf ty P0).1.1 < ty)
def md_ff (Bf : Int → Int) (ty : Int) (P0 g : Int → Int) : Int := jk_fnd (md_fP (md_x Bf ty P0).2 g) (md_cn Bf ty P0)
def md_O2 (O : Int → Int) (sp : Int) (w : Bool) : Int → Int := jk_set (jk_set (jk_set O 20 sp) 21 (jB w)) 7 0
/-- what runScript leaves: answer, fields, state, copy, history -/
def md_rs5 (O g b h Bf : Int → Int) (ty : Int) (P0 : Int → Int) : Int × (Int → Int) × (Int → Int) × (Int → Int) × (Int → Int) :=
  if md_w2 Bf ty P0 = true then (0, jk_set (jk_set (md_O2 O (md_x Bf ty P0).1.1 (md_w2 Bf ty P0)) 8 (md_x Bf ty P0).1.1) 12 1, g, b, h) else
  if md_ff Bf ty P0 g = -1 then ((md_cn Bf ty P0 : Nat), jk_set (jk_set (md_O2 O (md_x Bf ty P0).1.1 (md_w2 Bf ty P0)) 12 0) 3 (md_c2 (O 3)), md_gk (md_x Bf ty P0).2 g (md_cn Bf ty P0), g, md_h2 h (O 3) g) else
  (0, jk_set (jk_set (md_O2 O (md_x Bf ty P0).1.1 (md_w2 Bf ty P0)) 9 (md_ff Bf ty P0 g)) 12 2, g, g, h)
def md_rQ (m : Nat) (σ : jk_I) (n : Nat) (t : jk_T) (ρ : jk_P) (P : Int → Int) (r : Int × (Int → Int) × (Int → Int) × (Int → Int) × (Int → Int)) : jk_Q := fun v' n' t' σ' ρ' =>
  v' = some (jI r.1) ∧ n' = n ∧ t' = t ∧ ρ' = ρ ∧ σ' m = r.2.1 ∧ σ' (m + 2) = r.2.2.1 ∧ σ' (m + 4) = r.2.2.2.1 ∧ σ' (m + 6) = r.2.2.2.2 ∧ σ' (m + 28) = P ∧
  (∀ a, ¬ md_scr m a → a ≠ m → a ≠ m + 2 → a ≠ m + 4 → a ≠ m + 6 → a ≠ m + 28 → σ' a = σ a) ∧ md_z σ' m ∧ md_z10 σ' m
theorem md_rq {m : Nat} {σ σ' : jk_I} {n : Nat} {t : jk_T} {ρ : jk_P} {P : Int → Int} {r : Int × (Int → Int) × (Int → Int) × (Int → Int) × (Int → Int)} {v : Int} {O' g' b' h' : Int → Int} (hr : r = (v, O', g', b', h')) (h1 : σ' m = O') (h2 : σ' (m + 2) = g') (h3 : σ' (m + 4) = b') (h4 : σ' (m + 6) = h') (h5 : σ' (m + 28) = P)
    (h6 : ∀ a, ¬ md_scr m a → a ≠ m → a ≠ m + 2 → a ≠ m + 4 → a ≠ m + 6 → a ≠ m + 28 → σ' a = σ a) (h7 : md_z σ' m) (h8 : md_z10 σ' m) : md_rQ m σ n t ρ P r (some (jI v)) n t σ' ρ := by
  subst hr; exact ⟨rfl, rfl, rfl, rfl, h1, h2, h3, h4, h5, h6, h7, h8⟩
theorem md_O2_at (O : Int → Int) (sp : Int) (w : Bool) : md_O2 O sp w 3 = O 3 ∧ md_O2 O sp w 20 = sp ∧ md_O2 O sp w 21 = jB w := by
  unfold md_O2
  refine ⟨?_, ?_, ?_⟩
  · rw [jk_set_ne _ _ (by decide), jk_set_ne _ _ (by decide), jk_set_ne _ _ (by decide)]
  · rw [jk_set_ne _ _ (by decide), jk_set_ne _ _ (by decide), jk_set_at]
  · rw [jk_set_ne _ _ (by decide), jk_set_at]
theorem md_O2_w (O : Int → Int) (sp : Int) (w : Bool) : jk_set (jk_set (jk_set O 20 sp) 21 (jB w)) 7 0 = md_O2 O sp w := rfl
theorem md_s92 (r : Int → Int) (c d k : Int) : jk_set (jk_set (jk_set (jk_set r 12 c) 12 d) 9 k) 12 2 = jk_set (jk_set r 9 k) 12 2 := by
  funext j
  unfold jk_set
  by_cases h1 : j = 12 <;> by_cases h2 : j = 9 <;> simp [h1, h2]
theorem md_set_self (r : Int → Int) (i : Int) : jk_set r i (r i) = r := by
  funext j; unfold jk_set; split
  · rename_i h; rw [h]
  · rfl
theorem md_kp_f {σ : jk_I} {m : Nat} {O h b : Int → Int} (hc : O 12 ≠ 0) : md_kp σ m O h b = jk_row σ (m + 2) b := if_neg hc
theorem md_kp_t {σ : jk_I} {m : Nat} {O h b : Int → Int} (hc : O 12 = 0) : md_kp σ m O h b = jk_row (jk_row σ (m + 6) (md_h2 h (O 3) b)) m (jk_set O 3 (md_c2 (O 3))) := if_pos hc
end MD27
