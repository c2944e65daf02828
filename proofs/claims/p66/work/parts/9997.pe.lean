section PE
section PEJ
variable {G : jk_G} {M : jk_M} {pc q : Nat} {ls : List (Option Value)} {st : List Value} {n : Nat} {t : jk_T} {σ : jk_I} {ρ : jk_P} {rc rs : Nat} {Q : jk_Q} {X : jk_X}
/-- a text: the launch's own, or made -/
def st_is (G : jk_G) (t : jk_T) (ρ : jk_P) (σ : jk_I) (a : Nat) (L : List Int) : Prop := (∃ b, so_ok G a b L) ∨ ∃ b, sm_is t ρ σ a b L
theorem st_is_same {t' : jk_T} {ρ' : jk_P} {σ' : jk_I} {a : Nat} {L : List Int} (h : st_is G t ρ σ a L) (hf : ∀ b, (t b = some (.inr 13) ∨ ∃ k, t b = some (.inl (.byte, k))) → t' b = t b ∧ ρ' b = ρ b ∧ σ' b = σ b) : st_is G t' ρ' σ' a L := by
  rcases h with ⟨b, h⟩ | ⟨b, h1, h2, h3, h4, h5, h6⟩
  · exact Or.inl ⟨b, h⟩
  · obtain ⟨e1, e2, e3⟩ := hf a (Or.inl h1)
    obtain ⟨f1, f2, f3⟩ := hf b (Or.inr ⟨_, h2⟩)
    exact Or.inr ⟨b, e1.trans h1, f1.trans h2, by rw [e2]; exact h3, by rw [e3]; exact h4, h5, fun i hi => by rw [f3]; exact h6 i hi⟩
theorem jk_slen {a index : Nat} {L : List Int} (hz : zz_ok G) (hs : st_is G t ρ σ a L) (hw : Cond.methodLink (jk_own M) index ⟨"java/lang/String", "length", "()I"⟩ ∈ jk_WS) (hdep : Nat.ble 14 (jk_d M) = true) (hlen : Nat.ble st.length 4 = true) (htb : jk_tb M = []) (hd : decode (jk_cc M) pc = .ok (.invokevirtual index, 3)) (hp : pc + 3 = q) (kk : jk_J G M q ls (jI ((L.length : Nat) : Int) :: st) n t σ ρ rc rs Q X) : jk_J G M pc ls (.ref a :: st) n t σ ρ rc rs Q X := by
  have hdep := Nat.le_of_ble_eq_true hdep
  rcases hs with ⟨b, hso⟩ | ⟨b, hsm⟩
  · refine jk_callVO (q := q) (mc := 0) (ms := 0) (As := []) (fun s hs => (hso.2 s hs).1) (c_own_length hz hso) jm_J0_length_8abf5 hw rfl (Nat.le_trans (by decide) hdep) (Nat.le_of_ble_eq_true hlen) (Nat.zero_le _) (Nat.zero_le _) (fun x hx => by rw [htb] at hx; cases hx) hd hp (fun v' n' t' σ' ρ' hq => ?_) (fun _ _ _ _ _ h => h.elim)
    obtain ⟨rfl, rfl, rfl, rfl, rfl⟩ := hq
    exact kk
  · refine jk_callV (k := 13) (q := q) (mc := 0) (ms := 0) (As := []) (c_mad_length hz hsm) jm_J0_length_8abf5 hw rfl hsm.1 rfl (Nat.le_trans (by decide) hdep) (Nat.le_of_ble_eq_true hlen) (Nat.zero_le _) (Nat.zero_le _) (fun x hx => by rw [htb] at hx; cases hx) hd hp (fun v' n' t' σ' ρ' hq => ?_) (fun _ _ _ _ _ h => h.elim)
    obtain ⟨rfl, rfl, rfl, rfl, rfl⟩ := hq
    exact kk
theorem jk_schr {a index : Nat} {L : List Int} {j : Int} (hz : zz_ok G) (hv : zv_ok G) (hs : st_is G t ρ σ a L) (hj : 0 ≤ j ∧ j < (L.length : Nat)) (hw : Cond.methodLink (jk_own M) index ⟨"java/lang/String", "charAt", "(I)C"⟩ ∈ jk_WS) (hdep : Nat.ble 14 (jk_d M) = true) (hlen : Nat.ble st.length 4 = true) (htb : jk_tb M = []) (hd : decode (jk_cc M) pc = .ok (.invokevirtual index, 3)) (hp : pc + 3 = q) (kk : jk_J G M q ls (jI (L.getD j.toNat 0) :: st) n t σ ρ rc rs Q X) : jk_J G M pc ls (jI j :: .ref a :: st) n t σ ρ rc rs Q X := by
  have hdep := Nat.le_of_ble_eq_true hdep
  rcases hs with ⟨b, hso⟩ | ⟨b, hsm⟩
  · refine jk_callVO (q := q) (mc := 0) (ms := 0) (As := [jI j]) (fun s hs => (hso.2 s hs).1) (c_own_charAt hz hso hv hj) jm_J0_charAt_5068e hw rfl (Nat.le_trans (by decide) hdep) (Nat.le_of_ble_eq_true hlen) (Nat.zero_le _) (Nat.zero_le _) (fun x hx => by rw [htb] at hx; cases hx) hd hp (fun v' n' t' σ' ρ' hq => ?_) (fun _ _ _ _ _ h => h.elim)
    obtain ⟨rfl, rfl, rfl, rfl, rfl⟩ := hq
    exact kk
  · refine jk_callV (k := 13) (q := q) (mc := 0) (ms := 0) (As := [jI j]) (c_mad_charAt hz hsm hv hj) jm_J0_charAt_5068e hw rfl hsm.1 rfl (Nat.le_trans (by decide) hdep) (Nat.le_of_ble_eq_true hlen) (Nat.zero_le _) (Nat.zero_le _) (fun x hx => by rw [htb] at hx; cases hx) hd hp (fun v' n' t' σ' ρ' hq => ?_) (fun _ _ _ _ _ h => h.elim)
    obtain ⟨rfl, rfl, rfl, rfl, rfl⟩ := hq
    exact kk
/-- a query that answers -/
theorem jq_call {y : MethodName} {M1 : jk_M} {mc ms index na b : Nat} {As rest : List Value} {k : Int} {v : Value} {ex : Int → String} (hK : jk_K G y M1 mc ms (.ref b :: As) n t σ ρ (ln_RQ b k v σ n t ρ) (ln_RX b k ex σ n t ρ)) (hk : k = 0) (hm : jk_mV y M1 na) (hw : Cond.methodLink (jk_own M) index y ∈ jk_WS) (hcl : (jk_cl 12).1 = y.cls) (ht : t b = some (.inr 12)) (hna : As.length = na) (hdep : Nat.ble (jk_d M1 + 1) (jk_d M) = true) (hlen : Nat.ble rest.length 4 = true) (hmc : mc ≤ rc) (hms : ms ≤ rs) (htb : jk_tb M = [])
    (hd : decode (jk_cc M) pc = .ok (.invokevirtual index, 3)) (hp : pc + 3 = q) (kk : ∀ σ', ln_fr b σ σ' → jk_J G M q ls (v :: rest) n t σ' ρ (rc - mc) (rs - ms) Q X) : jk_J G M pc ls (As.reverse ++ .ref b :: rest) n t σ ρ rc rs Q X := by
  refine jk_callV (q := q) (k := 12) hK hm hw hcl ht hna (Nat.le_of_ble_eq_true hdep) (Nat.le_of_ble_eq_true hlen) hmc hms (fun x hx => by rw [htb] at hx; cases hx) hd hp (fun v' n' t' σ' ρ' hq => ?_) (fun E n' t' σ' ρ' hx9 => absurd hk hx9.1)
  obtain ⟨-, rfl, rfl, rfl, rfl, hf⟩ := hq
  exact kk σ' hf
/-- a query by act: an answer, or a throw's number -/
def hq_Q (x : Nat) (val : Int) (σ : jk_I) (n : Nat) (t : jk_T) (ρ : jk_P) : jk_Q := fun v' n' t' σ' ρ' => v' = some (jI val) ∧ n ≤ n' ∧ t' = t ∧ ρ' = ρ ∧ ln_fr x σ σ'
theorem hq_of {x : Nat} {k v : Int} {ex : Int → String} {v' : Option Value} {n' : Nat} {t' : jk_T} {σ' : jk_I} {ρ' : jk_P} (h : ac_Q (ln_RQ x k (jI v) σ n t ρ) (ln_RX x k ex σ n t ρ) v' n' t' σ' ρ') : hq_Q x (if k = 0 then v else ac_c (ex k)) σ n t ρ v' n' t' σ' ρ' := by
  rcases h with ⟨h1, h2, h3, h4, h5, h6⟩ | ⟨E, ⟨h1, h2, h3, h4, h5, h6⟩, h7⟩
  · exact ⟨by rw [h2, if_pos h1], by omega, h4, h5, h6⟩
  · exact ⟨by rw [h7, if_neg h1, h2], h3, h4, h5, h6⟩
theorem jq_act {mc ms index b : Nat} {As rest : List Value} {val : Int} {Q1 : jk_Q} {X1 : jk_X} (hK : jk_KH G yL_act mL_act hh_L_act mc ms As n t σ ρ (ac_Q Q1 X1) jk_no) (hq : ∀ v' n' t' σ' ρ', ac_Q Q1 X1 v' n' t' σ' ρ' → hq_Q b val σ n t ρ v' n' t' σ' ρ') (hw : Cond.methodLink (jk_own M) index yL_act ∈ jk_WS) (hna : As.length = 5) (hdep : Nat.ble 35 (jk_d M) = true) (hlen : Nat.ble rest.length 4 = true) (hmc : mc ≤ rc) (hms : ms ≤ rs) (htb : jk_tb M = [])
    (hd : decode (jk_cc M) pc = .ok (.invokestatic index, 3)) (hp : pc + 3 = q) (kk : ∀ n' σ', n ≤ n' → ln_fr b σ σ' → jk_J G M q ls (jI val :: rest) n' t σ' ρ (rc - mc) (rs - ms) Q X) : jk_J G M pc ls (As.reverse ++ rest) n t σ ρ rc rs Q X := by
  refine jk_callSH (q := q) hK jm_L_act hw hna hdep hlen hmc hms htb hd hp (fun v' n' t' σ' ρ' h => ?_) (fun _ _ _ _ _ h => h.elim)
  obtain ⟨rfl, h1, rfl, rfl, h2⟩ := hq _ _ _ _ _ h
  exact kk n' σ' h1 h2
end PEJ
theorem ln_fr_rel {x : Nat} {σ σ' : jk_I} {g : Int → Int} (h2 : g 2 ≤ 4) (hr : cl_rel σ (x + 2) g) (hf : ln_fr x σ σ') : cl_rel σ' (x + 2) g := cl_rel_same h2 (fun a h1 h3 => hf a (Or.inl (by omega))) hr
theorem ln_fr_nn {x : Nat} {σ σ' : jk_I} (h : cl_nn σ (x + 2)) (hf : ln_fr x σ σ') : cl_nn σ' (x + 2) := cl_nn_same (fun q hq => hf _ (Or.inl (by omega))) h
theorem ln_fr_t {x : Nat} {σ σ1 σ2 : jk_I} (h1 : ln_fr x σ σ1) (h2 : ln_fr x σ1 σ2) : ln_fr x σ σ2 := fun a ha => (h2 a ha).trans (h1 a ha)
/-! states -/
abbrev ps_S : Type := (Int → Int) × Nat × (Nat → Int → Int)
def ps_do (k : Nat) (S : ps_S) (a b v d : Int) : ps_S := if (cl_do k S.1 a b v d).1 = 0 then ((cl_do k S.1 a b v d).2.2, hs_pc S.2.1, hs_pH S.2.1 S.2.2 S.1) else S
def ps_v (k : Nat) (S : ps_S) (a b v d : Int) : Int := if (cl_do k S.1 a b v d).1 = 0 then (cl_do k S.1 a b v d).2.1 else ac_c (ex_t (cl_tc k (cl_do k S.1 a b v d).1))
def pc_at (x : Nat) (S : ps_S) (t : jk_T) (σ : jk_I) (ρ : jk_P) : Prop := ln_at t ρ x ∧ cl_rel σ (x + 2) S.1 ∧ cl_nn σ (x + 2) ∧ hs_rel σ (x + 140) S.2.1 S.2.2
def pc_ok (B : Int) (S : ps_S) : Prop := st_ok B S.1 ∧ S.2.1 ≤ 8 ∧ ∀ j, j < S.2.1 → st_ok B (S.2.2 j)
theorem st_2 {B : Int} {g : Int → Int} (h : st_ok B g) : g 2 ≤ 4 := h.1.1.2.2.1.2
theorem pc_ok_up {B B2 : Int} {S : ps_S} (h : pc_ok B S) (h2 : B ≤ B2) (h3 : B2 ≤ 1100000) : pc_ok B2 S := ⟨st_ok_up h.1 h2 h3, h.2.1, fun j hj => st_ok_up (h.2.2 j hj) h2 h3⟩
theorem pc_ok_push {B B2 : Int} {S : ps_S} {g : Int → Int} (h : pc_ok B S) (h2 : B ≤ B2) (h3 : B2 ≤ 1100000) (hg : st_ok B2 g) : pc_ok B2 (g, hs_pc S.2.1, hs_pH S.2.1 S.2.2 S.1) := by
  refine ⟨hg, ?_, fun j hj => ?_⟩
  · show hs_pc S.2.1 ≤ 8
    have := h.2.1
    unfold hs_pc; split <;> omega
  · show st_ok B2 (hs_pH S.2.1 S.2.2 S.1 j)
    have h8 := h.2.1
    have hj2 : j < hs_pc S.2.1 := hj
    unfold hs_pc at hj2
    unfold hs_pH
    split
    · split
      · exact st_ok_up (h.2.2 j (by omega)) h2 h3
      · exact st_ok_up h.1 h2 h3
    · rw [if_neg (by omega)] at hj2
      split
      · exact st_ok_up (h.2.2 (j + 1) (by omega)) h2 h3
      · exact st_ok_up h.1 h2 h3
theorem pc_ok_do {B : Int} {S : ps_S} (h : pc_ok B S) (hB : B + 85 ≤ 1100000) (k : Nat) (a b v d : Int) : pc_ok (B + 85) (ps_do k S a b v d) := by
  unfold ps_do
  split
  · exact pc_ok_push h (by omega) hB ⟨md_all_cl h.1.1 hB k a b v d, md_sit_cl h.1.1.1 h.1.2 k a b v d⟩
  · exact pc_ok_up h (by omega) hB
theorem pc_fc {x : Nat} {σ σ' : jk_I} (h : ln_fr x σ σ') : ln_fc x σ σ' := fun a h1 h2 => h a (by omega)
/-- what a change by act leaves -/
def hc_Q (x k : Nat) (S : ps_S) (a b v d : Int) (σ : jk_I) (n : Nat) (t : jk_T) (ρ : jk_P) : jk_Q := fun v' n' t' σ' ρ' => v' = some (jI (ps_v k S a b v d)) ∧ n ≤ n' ∧ t' = t ∧ ρ' = ρ ∧ pc_at x (ps_do k S a b v d) t σ' ρ ∧ ln_fc x σ σ'
theorem hs_rel_fr {x : Nat} {σ σ' : jk_I} {c : Nat} {Hr : Nat → Int → Int} (h : hs_rel σ (x + 140) c Hr) (hH : ∀ j, j < c → Hr j 2 ≤ 4) (hf : ∀ a, x + 140 ≤ a → a < x + 512 → σ' a = σ a) : hs_rel σ' (x + 140) c Hr := hs_rel_same (fun a h1 h2 => hf a (by omega) (by omega)) hH h
theorem hc_of {x k : Nat} {S : ps_S} {B : Int} {a b v d : Int} {σ : jk_I} {n : Nat} {t : jk_T} {ρ : jk_P} {v' : Option Value} {n' : Nat} {t' : jk_T} {σ' : jk_I} {ρ' : jk_P} (hat : pc_at x S t σ ρ) (hok : pc_ok B S) (h : ac_Q (ln_CQ x S.2.1 S.2.2 S.1 (cl_do k S.1 a b v d) σ n t ρ) (ln_CX x k (cl_do k S.1 a b v d) σ n t ρ) v' n' t' σ' ρ') : hc_Q x k S a b v d σ n t ρ v' n' t' σ' ρ' := by
  obtain ⟨a1, a2, a3, a4⟩ := hat
  unfold hc_Q ps_v ps_do
  rcases h with ⟨h1, h2, h3, h4, h5, h6, h7, h8, h9⟩ | ⟨E, ⟨h1, h2, h3, h4, h5, h6⟩, h7⟩
  · rw [if_pos h1, if_pos h1]
    exact ⟨h2, by omega, h4, h5, ⟨a1, h6, h7, h8⟩, h9⟩
  · rw [if_neg h1, if_neg h1]
    exact ⟨by rw [h7, h2], h3, h4, h5, ⟨a1, ln_fr_rel (st_2 hok.1) a2 h6, ln_fr_nn a3 h6, hs_rel_fr a4 (fun j hj => st_2 (hok.2.2 j hj)) (fun a g1 g2 => h6 a (Or.inl g2))⟩, pc_fc h6⟩
theorem cl_c1 (g : Int → Int) (a b v d : Int) : (cl_do 1 g a b v d).1 ≤ 2 := by
  show (md_fixes g a b).1 ≤ 2
  unfold md_fixes
  split
  · show (1 : Int) ≤ 2; decide
  · split
    · show (2 : Int) ≤ 2; decide
    · show (0 : Int) ≤ 2; decide
theorem ex_cx (k : Nat) (g : Int → Int) (a b v d : Int) (E : String) (h1 : (cl_do k g a b v d).1 ≠ 0) (h : E = ex_t (cl_tc k (cl_do k g a b v d).1)) :
    (k = 0 → E = "java/lang/IllegalStateException") ∧ (k = 1 → E = "java/lang/IndexOutOfBoundsException" ∨ E = "java/lang/IllegalArgumentException") ∧ ((k = 2 ∨ k = 5 ∨ k = 6 ∨ k = 9) → E = "java/lang/IndexOutOfBoundsException" ∨ E = "java/lang/IllegalStateException") ∧ ((k = 3 ∨ k = 4 ∨ k = 10) → E = "java/lang/IndexOutOfBoundsException" ∨ E = "java/lang/IllegalArgumentException" ∨ E = "java/lang/IllegalStateException") ∧ (k = 7 → E = "java/lang/IndexOutOfBoundsException" ∨ E = "java/util/NoSuchElementException" ∨ E = "java/lang/UnsupportedOperationException") ∧ (k = 11 → E = "java/lang/IllegalArgumentException") := by
  have hb := cl_do_bd k g a b v d
  have h1c : k = 1 → (cl_do k g a b v d).1 ≤ 2 := fun e => by subst e; exact cl_c1 g a b v d
  generalize (cl_do k g a b v d).1 = c at h h1 hb h1c
  have hc : c = 1 ∨ c = 2 ∨ c = 3 := by omega
  refine ⟨fun e => ?_, fun e => ?_, fun e => ?_, fun e => ?_, fun e => ?_, fun e => ?_⟩
  · subst e; rcases hc with rfl | rfl | rfl <;> exact h
  · have := h1c e
    subst e; rcases hc with rfl | rfl | rfl
    · exact Or.inl h
    · exact Or.inr h
    · omega
  · rcases e with rfl | rfl | rfl | rfl <;> rcases hc with rfl | rfl | rfl <;> first | exact Or.inl h | exact Or.inr h
  · rcases e with rfl | rfl | rfl <;> rcases hc with rfl | rfl | rfl <;> first | exact Or.inl h | exact Or.inr (Or.inl h) | exact Or.inr (Or.inr h)
  · subst e; rcases hc with rfl | rfl | rfl <;> first | exact Or.inl h | exact Or.inr (Or.inl h) | exact Or.inr (Or.inr h)
  · subst e; rcases hc with rfl | rfl | rfl <;> exact h
theorem c_act_0 {G : jk_G} {n : Nat} {t : jk_T} {σ : jk_I} {ρ : jk_P} {x : Nat} {S : ps_S} {B a b c : Int} (hz : zz_ok G) (hx : zx_ok G) (hzn : zn_ok G) (hzn2 : zn2_ok G) (hat : pc_at x S t σ ρ) (hok : pc_ok B S) : jk_KH G yL_act mL_act hh_L_act 1 6 [.ref x, jI 0, jI a, jI b, jI c] n t σ ρ (ac_Q (ln_CQ x S.2.1 S.2.2 S.1 (cl_do 0 S.1 0 0 0 0) σ n t ρ) (ln_CX x 0 (cl_do 0 S.1 0 0 0 0) σ n t ρ)) jk_no := by
  have K := c_X12_addBenchmark (G := G) (n := n) (t := t) (σ := σ) (ρ := ρ)  hz hx hat.1 hat.2.1 hok.1.1 hat.2.2.1 hok.1.2 hat.2.2.2 (fun j hj => st_2 (hok.2.2 j hj)) 
  skip
  exact w_act_0 hzn hzn2 hat.1.1 K (fun v' n' t' σ' ρ' h => ⟨_, h.2.1⟩) (fun E n' t' σ' ρ' h => (ex_cx 0 S.1 0 0 0 0 E h.1 h.2.1).1 rfl)
theorem jc_act_0 {G : jk_G} {M : jk_M} {pc q : Nat} {ls : List (Option Value)} {rest : List Value} {n : Nat} {t : jk_T} {σ : jk_I} {ρ : jk_P} {rc rs : Nat} {Q : jk_Q} {X : jk_X} {x index : Nat} {S : ps_S} {B a b c : Int} (hz : zz_ok G) (hx : zx_ok G) (hzn : zn_ok G) (hzn2 : zn2_ok G) (hat : pc_at x S t σ ρ) (hok : pc_ok B S) (hw : Cond.methodLink (jk_own M) index yL_act ∈ jk_WS) (hdep : Nat.ble 35 (jk_d M) = true) (hlen : Nat.ble rest.length 4 = true) (hmc : 1 ≤ rc) (hms : 6 ≤ rs) (htb : jk_tb M = []) (hd : decode (jk_cc M) pc = .ok (.invokestatic index, 3)) (hp : pc + 3 = q)
    (kk : ∀ n' σ', n ≤ n' → pc_at x (ps_do 0 S 0 0 0 0) t σ' ρ → ln_fc x σ σ' → jk_J G M q ls (jI (ps_v 0 S 0 0 0 0) :: rest) n' t σ' ρ (rc - 1) (rs - 6) Q X) : jk_J G M pc ls (jI c :: jI b :: jI a :: jI 0 :: .ref x :: rest) n t σ ρ rc rs Q X := by
  refine jk_callSH (q := q) (As := [.ref x, jI 0, jI a, jI b, jI c]) (c_act_0 hz hx hzn hzn2 hat hok) jm_L_act hw rfl hdep hlen hmc hms htb hd hp (fun v' n' t' σ' ρ' h => ?_) (fun _ _ _ _ _ h => h.elim)
  obtain ⟨rfl, h1, rfl, rfl, h2, h3⟩ := hc_of hat hok h
  exact kk n' σ' h1 h2 h3
theorem c_act_1 {G : jk_G} {n : Nat} {t : jk_T} {σ : jk_I} {ρ : jk_P} {x : Nat} {S : ps_S} {B a b c : Int} (hz : zz_ok G) (hx : zx_ok G) (hzn : zn_ok G) (hzn2 : zn2_ok G) (hat : pc_at x S t σ ρ) (hok : pc_ok B S) : jk_KH G yL_act mL_act hh_L_act 1 6 [.ref x, jI 1, jI a, jI b, jI c] n t σ ρ (ac_Q (ln_CQ x S.2.1 S.2.2 S.1 (cl_do 1 S.1 (jk_w a) (jk_w b) 0 0) σ n t ρ) (ln_CX x 1 (cl_do 1 S.1 (jk_w a) (jk_w b) 0 0) σ n t ρ)) jk_no := by
  have K := c_X12_fix (G := G) (n := n) (t := t) (σ := σ) (ρ := ρ) (a := jk_w a) (b := jk_w b) hz hx hat.1 hat.2.1 hok.1.1 hat.2.2.1 hok.1.2 hat.2.2.2 (fun j hj => st_2 (hok.2.2 j hj)) (jk_w_in a) (jk_w_in b)
  rw [jk_wI a, jk_wI b] at K
  exact w_act_1 hzn hzn2 hat.1.1 K (fun v' n' t' σ' ρ' h => ⟨_, h.2.1⟩) (fun E n' t' σ' ρ' h => (ex_cx 1 S.1 (jk_w a) (jk_w b) 0 0 E h.1 h.2.1).2.1 rfl)
theorem jc_act_1 {G : jk_G} {M : jk_M} {pc q : Nat} {ls : List (Option Value)} {rest : List Value} {n : Nat} {t : jk_T} {σ : jk_I} {ρ : jk_P} {rc rs : Nat} {Q : jk_Q} {X : jk_X} {x index : Nat} {S : ps_S} {B a b c : Int} (hz : zz_ok G) (hx : zx_ok G) (hzn : zn_ok G) (hzn2 : zn2_ok G) (hat : pc_at x S t σ ρ) (hok : pc_ok B S) (hw : Cond.methodLink (jk_own M) index yL_act ∈ jk_WS) (hdep : Nat.ble 35 (jk_d M) = true) (hlen : Nat.ble rest.length 4 = true) (hmc : 1 ≤ rc) (hms : 6 ≤ rs) (htb : jk_tb M = []) (hd : decode (jk_cc M) pc = .ok (.invokestatic index, 3)) (hp : pc + 3 = q)
    (kk : ∀ n' σ', n ≤ n' → pc_at x (ps_do 1 S (jk_w a) (jk_w b) 0 0) t σ' ρ → ln_fc x σ σ' → jk_J G M q ls (jI (ps_v 1 S (jk_w a) (jk_w b) 0 0) :: rest) n' t σ' ρ (rc - 1) (rs - 6) Q X) : jk_J G M pc ls (jI c :: jI b :: jI a :: jI 1 :: .ref x :: rest) n t σ ρ rc rs Q X := by
  refine jk_callSH (q := q) (As := [.ref x, jI 1, jI a, jI b, jI c]) (c_act_1 hz hx hzn hzn2 hat hok) jm_L_act hw rfl hdep hlen hmc hms htb hd hp (fun v' n' t' σ' ρ' h => ?_) (fun _ _ _ _ _ h => h.elim)
  obtain ⟨rfl, h1, rfl, rfl, h2, h3⟩ := hc_of hat hok h
  exact kk n' σ' h1 h2 h3
theorem c_act_2 {G : jk_G} {n : Nat} {t : jk_T} {σ : jk_I} {ρ : jk_P} {x : Nat} {S : ps_S} {B a b c : Int} (hz : zz_ok G) (hx : zx_ok G) (hzn : zn_ok G) (hzn2 : zn2_ok G) (hat : pc_at x S t σ ρ) (hok : pc_ok B S) : jk_KH G yL_act mL_act hh_L_act 1 6 [.ref x, jI 2, jI a, jI b, jI c] n t σ ρ (ac_Q (ln_CQ x S.2.1 S.2.2 S.1 (cl_do 2 S.1 (jk_w a) 0 0 0) σ n t ρ) (ln_CX x 2 (cl_do 2 S.1 (jk_w a) 0 0 0) σ n t ρ)) jk_no := by
  have K := c_X12_release (G := G) (n := n) (t := t) (σ := σ) (ρ := ρ) (a := jk_w a) hz hx hat.1 hat.2.1 hok.1.1 hat.2.2.1 hok.1.2 hat.2.2.2 (fun j hj => st_2 (hok.2.2 j hj)) (jk_w_in a)
  rw [jk_wI a] at K
  exact w_act_2 hzn hzn2 hat.1.1 K (fun v' n' t' σ' ρ' h => ⟨_, h.2.1⟩) (fun E n' t' σ' ρ' h => (ex_cx 2 S.1 (jk_w a) 0 0 0 E h.1 h.2.1).2.2.1 (by decide))
theorem jc_act_2 {G : jk_G} {M : jk_M} {pc q : Nat} {ls : List (Option Value)} {rest : List Value} {n : Nat} {t : jk_T} {σ : jk_I} {ρ : jk_P} {rc rs : Nat} {Q : jk_Q} {X : jk_X} {x index : Nat} {S : ps_S} {B a b c : Int} (hz : zz_ok G) (hx : zx_ok G) (hzn : zn_ok G) (hzn2 : zn2_ok G) (hat : pc_at x S t σ ρ) (hok : pc_ok B S) (hw : Cond.methodLink (jk_own M) index yL_act ∈ jk_WS) (hdep : Nat.ble 35 (jk_d M) = true) (hlen : Nat.ble rest.length 4 = true) (hmc : 1 ≤ rc) (hms : 6 ≤ rs) (htb : jk_tb M = []) (hd : decode (jk_cc M) pc = .ok (.invokestatic index, 3)) (hp : pc + 3 = q)
    (kk : ∀ n' σ', n ≤ n' → pc_at x (ps_do 2 S (jk_w a) 0 0 0) t σ' ρ → ln_fc x σ σ' → jk_J G M q ls (jI (ps_v 2 S (jk_w a) 0 0 0) :: rest) n' t σ' ρ (rc - 1) (rs - 6) Q X) : jk_J G M pc ls (jI c :: jI b :: jI a :: jI 2 :: .ref x :: rest) n t σ ρ rc rs Q X := by
  refine jk_callSH (q := q) (As := [.ref x, jI 2, jI a, jI b, jI c]) (c_act_2 hz hx hzn hzn2 hat hok) jm_L_act hw rfl hdep hlen hmc hms htb hd hp (fun v' n' t' σ' ρ' h => ?_) (fun _ _ _ _ _ h => h.elim)
  obtain ⟨rfl, h1, rfl, rfl, h2, h3⟩ := hc_of hat hok h
  exact kk n' σ' h1 h2 h3
theorem c_act_3 {G : jk_G} {n : Nat} {t : jk_T} {σ : jk_I} {ρ : jk_P} {x : Nat} {S : ps_S} {B a b c : Int} (hz : zz_ok G) (hx : zx_ok G) (hzn : zn_ok G) (hzn2 : zn2_ok G) (hat : pc_at x S t σ ρ) (hok : pc_ok B S) : jk_KH G yL_act mL_act hh_L_act 1 6 [.ref x, jI 3, jI a, jI b, jI c] n t σ ρ (ac_Q (ln_CQ x S.2.1 S.2.2 S.1 (cl_do 4 S.1 (jk_w a) (jk_w b) 0 0) σ n t ρ) (ln_CX x 4 (cl_do 4 S.1 (jk_w a) (jk_w b) 0 0) σ n t ρ)) jk_no := by
  have K := c_X12_addBackwardRun (G := G) (n := n) (t := t) (σ := σ) (ρ := ρ) (a := jk_w a) (b := jk_w b) hz hx hat.1 hat.2.1 hok.1.1 hat.2.2.1 hok.1.2 hat.2.2.2 (fun j hj => st_2 (hok.2.2 j hj)) (jk_w_in a) (jk_w_in b)
  rw [jk_wI a, jk_wI b] at K
  exact w_act_3 hzn hzn2 hat.1.1 K (fun v' n' t' σ' ρ' h => ⟨_, h.2.1⟩) (fun E n' t' σ' ρ' h => (ex_cx 4 S.1 (jk_w a) (jk_w b) 0 0 E h.1 h.2.1).2.2.2.1 (by decide))
theorem jc_act_3 {G : jk_G} {M : jk_M} {pc q : Nat} {ls : List (Option Value)} {rest : List Value} {n : Nat} {t : jk_T} {σ : jk_I} {ρ : jk_P} {rc rs : Nat} {Q : jk_Q} {X : jk_X} {x index : Nat} {S : ps_S} {B a b c : Int} (hz : zz_ok G) (hx : zx_ok G) (hzn : zn_ok G) (hzn2 : zn2_ok G) (hat : pc_at x S t σ ρ) (hok : pc_ok B S) (hw : Cond.methodLink (jk_own M) index yL_act ∈ jk_WS) (hdep : Nat.ble 35 (jk_d M) = true) (hlen : Nat.ble rest.length 4 = true) (hmc : 1 ≤ rc) (hms : 6 ≤ rs) (htb : jk_tb M = []) (hd : decode (jk_cc M) pc = .ok (.invokestatic index, 3)) (hp : pc + 3 = q)
    (kk : ∀ n' σ', n ≤ n' → pc_at x (ps_do 4 S (jk_w a) (jk_w b) 0 0) t σ' ρ → ln_fc x σ σ' → jk_J G M q ls (jI (ps_v 4 S (jk_w a) (jk_w b) 0 0) :: rest) n' t σ' ρ (rc - 1) (rs - 6) Q X) : jk_J G M pc ls (jI c :: jI b :: jI a :: jI 3 :: .ref x :: rest) n t σ ρ rc rs Q X := by
  refine jk_callSH (q := q) (As := [.ref x, jI 3, jI a, jI b, jI c]) (c_act_3 hz hx hzn hzn2 hat hok) jm_L_act hw rfl hdep hlen hmc hms htb hd hp (fun v' n' t' σ' ρ' h => ?_) (fun _ _ _ _ _ h => h.elim)
  obtain ⟨rfl, h1, rfl, rfl, h2, h3⟩ := hc_of hat hok h
  exact kk n' σ' h1 h2 h3
theorem c_act_4 {G : jk_G} {n : Nat} {t : jk_T} {σ : jk_I} {ρ : jk_P} {x : Nat} {S : ps_S} {B a b c : Int} (hz : zz_ok G) (hx : zx_ok G) (hzn : zn_ok G) (hzn2 : zn2_ok G) (hat : pc_at x S t σ ρ) (hok : pc_ok B S) : jk_KH G yL_act mL_act hh_L_act 1 6 [.ref x, jI 4, jI a, jI b, jI c] n t σ ρ (ac_Q (ln_CQ x S.2.1 S.2.2 S.1 (cl_do 5 S.1 (jk_w a) 0 0 0) σ n t ρ) (ln_CX x 5 (cl_do 5 S.1 (jk_w a) 0 0 0) σ n t ρ)) jk_no := by
  have K := c_X12_exclude (G := G) (n := n) (t := t) (σ := σ) (ρ := ρ) (a := jk_w a) hz hx hat.1 hat.2.1 hok.1.1 hat.2.2.1 hok.1.2 hat.2.2.2 (fun j hj => st_2 (hok.2.2 j hj)) (jk_w_in a)
  rw [jk_wI a] at K
  exact w_act_4 hzn hzn2 hat.1.1 K (fun v' n' t' σ' ρ' h => ⟨_, h.2.1⟩) (fun E n' t' σ' ρ' h => (ex_cx 5 S.1 (jk_w a) 0 0 0 E h.1 h.2.1).2.2.1 (by decide))
theorem jc_act_4 {G : jk_G} {M : jk_M} {pc q : Nat} {ls : List (Option Value)} {rest : List Value} {n : Nat} {t : jk_T} {σ : jk_I} {ρ : jk_P} {rc rs : Nat} {Q : jk_Q} {X : jk_X} {x index : Nat} {S : ps_S} {B a b c : Int} (hz : zz_ok G) (hx : zx_ok G) (hzn : zn_ok G) (hzn2 : zn2_ok G) (hat : pc_at x S t σ ρ) (hok : pc_ok B S) (hw : Cond.methodLink (jk_own M) index yL_act ∈ jk_WS) (hdep : Nat.ble 35 (jk_d M) = true) (hlen : Nat.ble rest.length 4 = true) (hmc : 1 ≤ rc) (hms : 6 ≤ rs) (htb : jk_tb M = []) (hd : decode (jk_cc M) pc = .ok (.invokestatic index, 3)) (hp : pc + 3 = q)
    (kk : ∀ n' σ', n ≤ n' → pc_at x (ps_do 5 S (jk_w a) 0 0 0) t σ' ρ → ln_fc x σ σ' → jk_J G M q ls (jI (ps_v 5 S (jk_w a) 0 0 0) :: rest) n' t σ' ρ (rc - 1) (rs - 6) Q X) : jk_J G M pc ls (jI c :: jI b :: jI a :: jI 4 :: .ref x :: rest) n t σ ρ rc rs Q X := by
  refine jk_callSH (q := q) (As := [.ref x, jI 4, jI a, jI b, jI c]) (c_act_4 hz hx hzn hzn2 hat hok) jm_L_act hw rfl hdep hlen hmc hms htb hd hp (fun v' n' t' σ' ρ' h => ?_) (fun _ _ _ _ _ h => h.elim)
  obtain ⟨rfl, h1, rfl, rfl, h2, h3⟩ := hc_of hat hok h
  exact kk n' σ' h1 h2 h3
theorem c_act_5 {G : jk_G} {n : Nat} {t : jk_T} {σ : jk_I} {ρ : jk_P} {x : Nat} {S : ps_S} {B a b c : Int} (hz : zz_ok G) (hx : zx_ok G) (hzn : zn_ok G) (hzn2 : zn2_ok G) (hat : pc_at x S t σ ρ) (hok : pc_ok B S) : jk_KH G yL_act mL_act hh_L_act 1 6 [.ref x, jI 5, jI a, jI b, jI c] n t σ ρ (ac_Q (ln_CQ x S.2.1 S.2.2 S.1 (cl_do 6 S.1 (jk_w a) 0 0 0) σ n t ρ) (ln_CX x 6 (cl_do 6 S.1 (jk_w a) 0 0 0) σ n t ρ)) jk_no := by
  have K := c_X12_include (G := G) (n := n) (t := t) (σ := σ) (ρ := ρ) (a := jk_w a) hz hx hat.1 hat.2.1 hok.1.1 hat.2.2.1 hok.1.2 hat.2.2.2 (fun j hj => st_2 (hok.2.2 j hj)) (jk_w_in a)
  rw [jk_wI a] at K
  exact w_act_5 hzn hzn2 hat.1.1 K (fun v' n' t' σ' ρ' h => ⟨_, h.2.1⟩) (fun E n' t' σ' ρ' h => (ex_cx 6 S.1 (jk_w a) 0 0 0 E h.1 h.2.1).2.2.1 (by decide))
theorem jc_act_5 {G : jk_G} {M : jk_M} {pc q : Nat} {ls : List (Option Value)} {rest : List Value} {n : Nat} {t : jk_T} {σ : jk_I} {ρ : jk_P} {rc rs : Nat} {Q : jk_Q} {X : jk_X} {x index : Nat} {S : ps_S} {B a b c : Int} (hz : zz_ok G) (hx : zx_ok G) (hzn : zn_ok G) (hzn2 : zn2_ok G) (hat : pc_at x S t σ ρ) (hok : pc_ok B S) (hw : Cond.methodLink (jk_own M) index yL_act ∈ jk_WS) (hdep : Nat.ble 35 (jk_d M) = true) (hlen : Nat.ble rest.length 4 = true) (hmc : 1 ≤ rc) (hms : 6 ≤ rs) (htb : jk_tb M = []) (hd : decode (jk_cc M) pc = .ok (.invokestatic index, 3)) (hp : pc + 3 = q)
    (kk : ∀ n' σ', n ≤ n' → pc_at x (ps_do 6 S (jk_w a) 0 0 0) t σ' ρ → ln_fc x σ σ' → jk_J G M q ls (jI (ps_v 6 S (jk_w a) 0 0 0) :: rest) n' t σ' ρ (rc - 1) (rs - 6) Q X) : jk_J G M pc ls (jI c :: jI b :: jI a :: jI 5 :: .ref x :: rest) n t σ ρ rc rs Q X := by
  refine jk_callSH (q := q) (As := [.ref x, jI 5, jI a, jI b, jI c]) (c_act_5 hz hx hzn hzn2 hat hok) jm_L_act hw rfl hdep hlen hmc hms htb hd hp (fun v' n' t' σ' ρ' h => ?_) (fun _ _ _ _ _ h => h.elim)
  obtain ⟨rfl, h1, rfl, rfl, h2, h3⟩ := hc_of hat hok h
  exact kk n' σ' h1 h2 h3
theorem c_act_6 {G : jk_G} {n : Nat} {t : jk_T} {σ : jk_I} {ρ : jk_P} {x : Nat} {S : ps_S} {B a b c : Int} (hz : zz_ok G) (hx : zx_ok G) (hzn : zn_ok G) (hzn2 : zn2_ok G) (hat : pc_at x S t σ ρ) (hok : pc_ok B S) : jk_KH G yL_act mL_act hh_L_act 1 6 [.ref x, jI 6, jI a, jI b, jI c] n t σ ρ (ac_Q (ln_CQ x S.2.1 S.2.2 S.1 (cl_do 7 S.1 (jk_w a) 0 0 0) σ n t ρ) (ln_CX x 7 (cl_do 7 S.1 (jk_w a) 0 0 0) σ n t ρ)) jk_no := by
  have K := c_X12_shareMisclosure (G := G) (n := n) (t := t) (σ := σ) (ρ := ρ) (a := jk_w a) hz hx hat.1 hat.2.1 hok.1.1 hat.2.2.1 hok.1.2 hat.2.2.2 (fun j hj => st_2 (hok.2.2 j hj)) (jk_w_in a)
  rw [jk_wI a] at K
  exact w_act_6 hzn hzn2 hat.1.1 K (fun v' n' t' σ' ρ' h => ⟨_, h.2.1⟩) (fun E n' t' σ' ρ' h => (ex_cx 7 S.1 (jk_w a) 0 0 0 E h.1 h.2.1).2.2.2.2.1 rfl)
theorem jc_act_6 {G : jk_G} {M : jk_M} {pc q : Nat} {ls : List (Option Value)} {rest : List Value} {n : Nat} {t : jk_T} {σ : jk_I} {ρ : jk_P} {rc rs : Nat} {Q : jk_Q} {X : jk_X} {x index : Nat} {S : ps_S} {B a b c : Int} (hz : zz_ok G) (hx : zx_ok G) (hzn : zn_ok G) (hzn2 : zn2_ok G) (hat : pc_at x S t σ ρ) (hok : pc_ok B S) (hw : Cond.methodLink (jk_own M) index yL_act ∈ jk_WS) (hdep : Nat.ble 35 (jk_d M) = true) (hlen : Nat.ble rest.length 4 = true) (hmc : 1 ≤ rc) (hms : 6 ≤ rs) (htb : jk_tb M = []) (hd : decode (jk_cc M) pc = .ok (.invokestatic index, 3)) (hp : pc + 3 = q)
    (kk : ∀ n' σ', n ≤ n' → pc_at x (ps_do 7 S (jk_w a) 0 0 0) t σ' ρ → ln_fc x σ σ' → jk_J G M q ls (jI (ps_v 7 S (jk_w a) 0 0 0) :: rest) n' t σ' ρ (rc - 1) (rs - 6) Q X) : jk_J G M pc ls (jI c :: jI b :: jI a :: jI 6 :: .ref x :: rest) n t σ ρ rc rs Q X := by
  refine jk_callSH (q := q) (As := [.ref x, jI 6, jI a, jI b, jI c]) (c_act_6 hz hx hzn hzn2 hat hok) jm_L_act hw rfl hdep hlen hmc hms htb hd hp (fun v' n' t' σ' ρ' h => ?_) (fun _ _ _ _ _ h => h.elim)
  obtain ⟨rfl, h1, rfl, rfl, h2, h3⟩ := hc_of hat hok h
  exact kk n' σ' h1 h2 h3
theorem c_act_7 {G : jk_G} {n : Nat} {t : jk_T} {σ : jk_I} {ρ : jk_P} {x : Nat} {S : ps_S} {B a b c : Int} (hz : zz_ok G) (hx : zx_ok G) (hzn : zn_ok G) (hzn2 : zn2_ok G) (hat : pc_at x S t σ ρ) (hok : pc_ok B S) : jk_KH G yL_act mL_act hh_L_act 1 6 [.ref x, jI 7, jI a, jI b, jI c] n t σ ρ (ac_Q (ln_CQ x S.2.1 S.2.2 S.1 (cl_do 9 S.1 (jk_w a) 0 0 0) σ n t ρ) (ln_CX x 9 (cl_do 9 S.1 (jk_w a) 0 0 0) σ n t ρ)) jk_no := by
  have K := c_X12_addProfile (G := G) (n := n) (t := t) (σ := σ) (ρ := ρ) (a := jk_w a) hz hx hat.1 hat.2.1 hok.1.1 hat.2.2.1 hok.1.2 hat.2.2.2 (fun j hj => st_2 (hok.2.2 j hj)) (jk_w_in a)
  rw [jk_wI a] at K
  exact w_act_7 hzn hzn2 hat.1.1 K (fun v' n' t' σ' ρ' h => ⟨_, h.2.1⟩) (fun E n' t' σ' ρ' h => (ex_cx 9 S.1 (jk_w a) 0 0 0 E h.1 h.2.1).2.2.1 (by decide))
theorem jc_act_7 {G : jk_G} {M : jk_M} {pc q : Nat} {ls : List (Option Value)} {rest : List Value} {n : Nat} {t : jk_T} {σ : jk_I} {ρ : jk_P} {rc rs : Nat} {Q : jk_Q} {X : jk_X} {x index : Nat} {S : ps_S} {B a b c : Int} (hz : zz_ok G) (hx : zx_ok G) (hzn : zn_ok G) (hzn2 : zn2_ok G) (hat : pc_at x S t σ ρ) (hok : pc_ok B S) (hw : Cond.methodLink (jk_own M) index yL_act ∈ jk_WS) (hdep : Nat.ble 35 (jk_d M) = true) (hlen : Nat.ble rest.length 4 = true) (hmc : 1 ≤ rc) (hms : 6 ≤ rs) (htb : jk_tb M = []) (hd : decode (jk_cc M) pc = .ok (.invokestatic index, 3)) (hp : pc + 3 = q)
    (kk : ∀ n' σ', n ≤ n' → pc_at x (ps_do 9 S (jk_w a) 0 0 0) t σ' ρ → ln_fc x σ σ' → jk_J G M q ls (jI (ps_v 9 S (jk_w a) 0 0 0) :: rest) n' t σ' ρ (rc - 1) (rs - 6) Q X) : jk_J G M pc ls (jI c :: jI b :: jI a :: jI 7 :: .ref x :: rest) n t σ ρ rc rs Q X := by
  refine jk_callSH (q := q) (As := [.ref x, jI 7, jI a, jI b, jI c]) (c_act_7 hz hx hzn hzn2 hat hok) jm_L_act hw rfl hdep hlen hmc hms htb hd hp (fun v' n' t' σ' ρ' h => ?_) (fun _ _ _ _ _ h => h.elim)
  obtain ⟨rfl, h1, rfl, rfl, h2, h3⟩ := hc_of hat hok h
  exact kk n' σ' h1 h2 h3
theorem c_act_8 {G : jk_G} {n : Nat} {t : jk_T} {σ : jk_I} {ρ : jk_P} {x : Nat} {S : ps_S} {B a b c : Int} (hz : zz_ok G) (hx : zx_ok G) (hzn : zn_ok G) (hzn2 : zn2_ok G) (hat : pc_at x S t σ ρ) (hok : pc_ok B S) : jk_KH G yL_act mL_act hh_L_act 1 6 [.ref x, jI 8, jI a, jI b, jI c] n t σ ρ (ac_Q (ln_CQ x S.2.1 S.2.2 S.1 (cl_do 10 S.1 (jk_w a) (jk_w b) (jk_w c) 0) σ n t ρ) (ln_CX x 10 (cl_do 10 S.1 (jk_w a) (jk_w b) (jk_w c) 0) σ n t ρ)) jk_no := by
  have K := c_X12_addStation (G := G) (n := n) (t := t) (σ := σ) (ρ := ρ) (a := jk_w a) (b := jk_w b) (v := jk_w c) hz hx hat.1 hat.2.1 hok.1.1 hat.2.2.1 hok.1.2 hat.2.2.2 (fun j hj => st_2 (hok.2.2 j hj)) (jk_w_in a) (jk_w_in b) (jk_w_in c)
  rw [jk_wI a, jk_wI b, jk_wI c] at K
  exact w_act_8 hzn hzn2 hat.1.1 K (fun v' n' t' σ' ρ' h => ⟨_, h.2.1⟩) (fun E n' t' σ' ρ' h => (ex_cx 10 S.1 (jk_w a) (jk_w b) (jk_w c) 0 E h.1 h.2.1).2.2.2.1 (by decide))
theorem jc_act_8 {G : jk_G} {M : jk_M} {pc q : Nat} {ls : List (Option Value)} {rest : List Value} {n : Nat} {t : jk_T} {σ : jk_I} {ρ : jk_P} {rc rs : Nat} {Q : jk_Q} {X : jk_X} {x index : Nat} {S : ps_S} {B a b c : Int} (hz : zz_ok G) (hx : zx_ok G) (hzn : zn_ok G) (hzn2 : zn2_ok G) (hat : pc_at x S t σ ρ) (hok : pc_ok B S) (hw : Cond.methodLink (jk_own M) index yL_act ∈ jk_WS) (hdep : Nat.ble 35 (jk_d M) = true) (hlen : Nat.ble rest.length 4 = true) (hmc : 1 ≤ rc) (hms : 6 ≤ rs) (htb : jk_tb M = []) (hd : decode (jk_cc M) pc = .ok (.invokestatic index, 3)) (hp : pc + 3 = q)
    (kk : ∀ n' σ', n ≤ n' → pc_at x (ps_do 10 S (jk_w a) (jk_w b) (jk_w c) 0) t σ' ρ → ln_fc x σ σ' → jk_J G M q ls (jI (ps_v 10 S (jk_w a) (jk_w b) (jk_w c) 0) :: rest) n' t σ' ρ (rc - 1) (rs - 6) Q X) : jk_J G M pc ls (jI c :: jI b :: jI a :: jI 8 :: .ref x :: rest) n t σ ρ rc rs Q X := by
  refine jk_callSH (q := q) (As := [.ref x, jI 8, jI a, jI b, jI c]) (c_act_8 hz hx hzn hzn2 hat hok) jm_L_act hw rfl hdep hlen hmc hms htb hd hp (fun v' n' t' σ' ρ' h => ?_) (fun _ _ _ _ _ h => h.elim)
  obtain ⟨rfl, h1, rfl, rfl, h2, h3⟩ := hc_of hat hok h
  exact kk n' σ' h1 h2 h3
theorem c_act_9 {G : jk_G} {n : Nat} {t : jk_T} {σ : jk_I} {ρ : jk_P} {x : Nat} {S : ps_S} {B a b c : Int} (hz : zz_ok G) (hx : zx_ok G) (hzn : zn_ok G) (hzn2 : zn2_ok G) (hat : pc_at x S t σ ρ) (hok : pc_ok B S) : jk_KH G yL_act mL_act hh_L_act 1 6 [.ref x, jI 9, jI a, jI b, jI c] n t σ ρ (ac_Q (ln_CQ x S.2.1 S.2.2 S.1 (cl_do 11 S.1 (jk_w a) 0 0 0) σ n t ρ) (ln_CX x 11 (cl_do 11 S.1 (jk_w a) 0 0 0) σ n t ρ)) jk_no := by
  have K := c_X12_setWaterLevel (G := G) (n := n) (t := t) (σ := σ) (ρ := ρ) (a := jk_w a) hz hx hat.1 hat.2.1 hok.1.1 hat.2.2.1 hok.1.2 hat.2.2.2 (fun j hj => st_2 (hok.2.2 j hj)) (jk_w_in a)
  rw [jk_wI a] at K
  exact w_act_9 hzn hzn2 hat.1.1 K (fun v' n' t' σ' ρ' h => ⟨_, h.2.1⟩) (fun E n' t' σ' ρ' h => (ex_cx 11 S.1 (jk_w a) 0 0 0 E h.1 h.2.1).2.2.2.2.2 rfl)
theorem jc_act_9 {G : jk_G} {M : jk_M} {pc q : Nat} {ls : List (Option Value)} {rest : List Value} {n : Nat} {t : jk_T} {σ : jk_I} {ρ : jk_P} {rc rs : Nat} {Q : jk_Q} {X : jk_X} {x index : Nat} {S : ps_S} {B a b c : Int} (hz : zz_ok G) (hx : zx_ok G) (hzn : zn_ok G) (hzn2 : zn2_ok G) (hat : pc_at x S t σ ρ) (hok : pc_ok B S) (hw : Cond.methodLink (jk_own M) index yL_act ∈ jk_WS) (hdep : Nat.ble 35 (jk_d M) = true) (hlen : Nat.ble rest.length 4 = true) (hmc : 1 ≤ rc) (hms : 6 ≤ rs) (htb : jk_tb M = []) (hd : decode (jk_cc M) pc = .ok (.invokestatic index, 3)) (hp : pc + 3 = q)
    (kk : ∀ n' σ', n ≤ n' → pc_at x (ps_do 11 S (jk_w a) 0 0 0) t σ' ρ → ln_fc x σ σ' → jk_J G M q ls (jI (ps_v 11 S (jk_w a) 0 0 0) :: rest) n' t σ' ρ (rc - 1) (rs - 6) Q X) : jk_J G M pc ls (jI c :: jI b :: jI a :: jI 9 :: .ref x :: rest) n t σ ρ rc rs Q X := by
  refine jk_callSH (q := q) (As := [.ref x, jI 9, jI a, jI b, jI c]) (c_act_9 hz hx hzn hzn2 hat hok) jm_L_act hw rfl hdep hlen hmc hms htb hd hp (fun v' n' t' σ' ρ' h => ?_) (fun _ _ _ _ _ h => h.elim)
  obtain ⟨rfl, h1, rfl, rfl, h2, h3⟩ := hc_of hat hok h
  exact kk n' σ' h1 h2 h3
theorem c_line {G : jk_G} {n : Nat} {t : jk_T} {σ : jk_I} {ρ : jk_P} {x : Nat} {S : ps_S} {B a b c d : Int} (hz : zz_ok G) (hx : zx_ok G) (hzn : zn_ok G) (hzn2 : zn2_ok G) (hat : pc_at x S t σ ρ) (hok : pc_ok B S) : jk_KH G yL_line mL_line hh_L_line 1 6 [.ref x, jI a, jI b, jI c, jI d] n t σ ρ (ac_Q (ln_CQ x S.2.1 S.2.2 S.1 (cl_do 3 S.1 (jk_w a) (jk_w b) (jk_w c) (jk_w d)) σ n t ρ) (ln_CX x 3 (cl_do 3 S.1 (jk_w a) (jk_w b) (jk_w c) (jk_w d)) σ n t ρ)) jk_no := by
  have K := c_X12_addLine (G := G) (n := n) (t := t) (σ := σ) (ρ := ρ) (a := jk_w a) (b := jk_w b) (v := jk_w c) (d := jk_w d) hz hx hat.1 hat.2.1 hok.1.1 hat.2.2.1 hok.1.2 hat.2.2.2 (fun j hj => st_2 (hok.2.2 j hj)) (jk_w_in a) (jk_w_in b) (jk_w_in c) (jk_w_in d)
  rw [jk_wI a, jk_wI b, jk_wI c, jk_wI d] at K
  exact w_line hzn hzn2 hat.1.1 K (fun v' n' t' σ' ρ' h => ⟨_, h.2.1⟩) (fun E n' t' σ' ρ' h => (ex_cx 3 S.1 (jk_w a) (jk_w b) (jk_w c) (jk_w d) E h.1 h.2.1).2.2.2.1 (by decide))
theorem jc_line {G : jk_G} {M : jk_M} {pc q : Nat} {ls : List (Option Value)} {rest : List Value} {n : Nat} {t : jk_T} {σ : jk_I} {ρ : jk_P} {rc rs : Nat} {Q : jk_Q} {X : jk_X} {x index : Nat} {S : ps_S} {B a b c d : Int} (hz : zz_ok G) (hx : zx_ok G) (hzn : zn_ok G) (hzn2 : zn2_ok G) (hat : pc_at x S t σ ρ) (hok : pc_ok B S) (hw : Cond.methodLink (jk_own M) index yL_line ∈ jk_WS) (hdep : Nat.ble 35 (jk_d M) = true) (hlen : Nat.ble rest.length 4 = true) (hmc : 1 ≤ rc) (hms : 6 ≤ rs) (htb : jk_tb M = []) (hd : decode (jk_cc M) pc = .ok (.invokestatic index, 3)) (hp : pc + 3 = q)
    (kk : ∀ n' σ', n ≤ n' → pc_at x (ps_do 3 S (jk_w a) (jk_w b) (jk_w c) (jk_w d)) t σ' ρ → ln_fc x σ σ' → jk_J G M q ls (jI (ps_v 3 S (jk_w a) (jk_w b) (jk_w c) (jk_w d)) :: rest) n' t σ' ρ (rc - 1) (rs - 6) Q X) : jk_J G M pc ls (jI d :: jI c :: jI b :: jI a :: .ref x :: rest) n t σ ρ rc rs Q X := by
  refine jk_callSH (q := q) (As := [.ref x, jI a, jI b, jI c, jI d]) (c_line hz hx hzn hzn2 hat hok) jm_L_line hw rfl hdep hlen hmc hms htb hd hp (fun v' n' t' σ' ρ' h => ?_) (fun _ _ _ _ _ h => h.elim)
  obtain ⟨rfl, h1, rfl, rfl, h2, h3⟩ := hc_of hat hok h
  exact kk n' σ' h1 h2 h3
def qa_ht (g : Int → Int) (a : Int) : Int := if (md_q_ht g (jk_w a)).1 = 0 then (md_q_ht g (jk_w a)).2 else ac_c (ex_2 "java/lang/IndexOutOfBoundsException" "java/util/NoSuchElementException" (md_q_ht g (jk_w a)).1)
theorem jq_act_10 {G : jk_G} {M : jk_M} {pc q : Nat} {ls : List (Option Value)} {rest : List Value} {n : Nat} {t : jk_T} {σ : jk_I} {ρ : jk_P} {rc rs : Nat} {Q : jk_Q} {X : jk_X} {x index : Nat} {g : Int → Int} {B a b c : Int} (hz : zz_ok G) (hx : zx_ok G) (hzn : zn_ok G) (hzn2 : zn2_ok G) (hln : ln_at t ρ x) (hr : cl_rel σ (x + 2) g) (hok : st_ok B g) (hnn : cl_nn σ (x + 2)) (hw : Cond.methodLink (jk_own M) index yL_act ∈ jk_WS) (hdep : Nat.ble 35 (jk_d M) = true) (hlen : Nat.ble rest.length 4 = true) (hmc : 6 ≤ rc) (hms : 36 ≤ rs) (htb : jk_tb M = []) (hd : decode (jk_cc M) pc = .ok (.invokestatic index, 3)) (hp : pc + 3 = q)
    (kk : ∀ n' σ', n ≤ n' → ln_fr x σ σ' → jk_J G M q ls (jI (qa_ht g a) :: rest) n' t σ' ρ (rc - 6) (rs - 36) Q X) : jk_J G M pc ls (jI c :: jI b :: jI a :: jI 10 :: .ref x :: rest) n t σ ρ rc rs Q X := by
  have K := c_X12_height (G := G) (n := n) (t := t) (σ := σ) (ρ := ρ) (p := jk_w a) hz hx hln hr hok.1 hnn hok.2 (jk_w_in a)
  rw [jk_wI a] at K
  exact jq_act (q := q) (As := [.ref x, jI 10, jI a, jI b, jI c]) (w_act_10 hzn hzn2 hln.1 K (fun v' n' t' σ' ρ' h => ⟨_, h.2.1⟩) (fun E n' t' σ' ρ' h => ex_2c h.2.1)) (fun v' n' t' σ' ρ' h => hq_of h) hw rfl hdep hlen hmc hms htb hd hp kk
def qa_gr (g : Int → Int) (a b : Int) : Int := if (md_q_gr g (jk_w a) (jk_w b)).1 = 0 then (md_q_gr g (jk_w a) (jk_w b)).2 else ac_c (ex_3 "java/lang/IndexOutOfBoundsException" "java/lang/IllegalArgumentException" "java/util/NoSuchElementException" (md_q_gr g (jk_w a) (jk_w b)).1)
theorem jq_act_14 {G : jk_G} {M : jk_M} {pc q : Nat} {ls : List (Option Value)} {rest : List Value} {n : Nat} {t : jk_T} {σ : jk_I} {ρ : jk_P} {rc rs : Nat} {Q : jk_Q} {X : jk_X} {x index : Nat} {g : Int → Int} {B a b c : Int} (hz : zz_ok G) (hx : zx_ok G) (hzn : zn_ok G) (hzn2 : zn2_ok G) (hln : ln_at t ρ x) (hr : cl_rel σ (x + 2) g) (hok : st_ok B g) (hnn : cl_nn σ (x + 2)) (hw : Cond.methodLink (jk_own M) index yL_act ∈ jk_WS) (hdep : Nat.ble 35 (jk_d M) = true) (hlen : Nat.ble rest.length 4 = true) (hmc : 6 ≤ rc) (hms : 36 ≤ rs) (htb : jk_tb M = []) (hd : decode (jk_cc M) pc = .ok (.invokestatic index, 3)) (hp : pc + 3 = q)
    (kk : ∀ n' σ', n ≤ n' → ln_fr x σ σ' → jk_J G M q ls (jI (qa_gr g a b) :: rest) n' t σ' ρ (rc - 6) (rs - 36) Q X) : jk_J G M pc ls (jI c :: jI b :: jI a :: jI 14 :: .ref x :: rest) n t σ ρ rc rs Q X := by
  have K := c_X12_ground (G := G) (n := n) (t := t) (σ := σ) (ρ := ρ) (p := jk_w a) (c := jk_w b) hz hx hln hr hok.1 hnn hok.2 (jk_w_in a) (jk_w_in b)
  rw [jk_wI a, jk_wI b] at K
  exact jq_act (q := q) (As := [.ref x, jI 14, jI a, jI b, jI c]) (w_act_14 hzn hzn2 hln.1 K (fun v' n' t' σ' ρ' h => ⟨_, h.2.1⟩) (fun E n' t' σ' ρ' h => ex_3c h.2.1)) (fun v' n' t' σ' ρ' h => hq_of h) hw rfl hdep hlen hmc hms htb hd hp kk
def qa_wc (g : Int → Int) (a : Int) : Int := if (md_q_wc g (jk_w a)).1 = 0 then (md_q_wc g (jk_w a)).2 else ac_c (ex_2 "java/lang/IndexOutOfBoundsException" "java/util/NoSuchElementException" (md_q_wc g (jk_w a)).1)
theorem jq_act_15 {G : jk_G} {M : jk_M} {pc q : Nat} {ls : List (Option Value)} {rest : List Value} {n : Nat} {t : jk_T} {σ : jk_I} {ρ : jk_P} {rc rs : Nat} {Q : jk_Q} {X : jk_X} {x index : Nat} {g : Int → Int} {B a b c : Int} (hz : zz_ok G) (hx : zx_ok G) (hzn : zn_ok G) (hzn2 : zn2_ok G) (hln : ln_at t ρ x) (hr : cl_rel σ (x + 2) g) (hok : st_ok B g) (hnn : cl_nn σ (x + 2)) (hB : B ≤ 100000) (hw : Cond.methodLink (jk_own M) index yL_act ∈ jk_WS) (hdep : Nat.ble 35 (jk_d M) = true) (hlen : Nat.ble rest.length 4 = true) (hmc : 6 ≤ rc) (hms : 36 ≤ rs) (htb : jk_tb M = []) (hd : decode (jk_cc M) pc = .ok (.invokestatic index, 3)) (hp : pc + 3 = q)
    (kk : ∀ n' σ', n ≤ n' → ln_fr x σ σ' → jk_J G M q ls (jI (qa_wc g a) :: rest) n' t σ' ρ (rc - 6) (rs - 36) Q X) : jk_J G M pc ls (jI c :: jI b :: jI a :: jI 15 :: .ref x :: rest) n t σ ρ rc rs Q X := by
  have K := c_X12_wetColumns (G := G) (n := n) (t := t) (σ := σ) (ρ := ρ) (p := jk_w a) hz hx hln hr hok.1 hnn hok.2 hB (jk_w_in a)
  rw [jk_wI a] at K
  exact jq_act (q := q) (As := [.ref x, jI 15, jI a, jI b, jI c]) (w_act_15 hzn hzn2 hln.1 K (fun v' n' t' σ' ρ' h => ⟨_, h.2.1⟩) (fun E n' t' σ' ρ' h => ex_2c h.2.1)) (fun v' n' t' σ' ρ' h => hq_of h) hw rfl hdep hlen hmc hms htb hd hp kk
def qa_mc (g : Int → Int) (a : Int) : Int := if (md_q_mc g (jk_w a)).1 = 0 then (md_q_mc g (jk_w a)).2 else ac_c (ex_2 "java/lang/IndexOutOfBoundsException" "java/util/NoSuchElementException" (md_q_mc g (jk_w a)).1)
theorem jq_act_18 {G : jk_G} {M : jk_M} {pc q : Nat} {ls : List (Option Value)} {rest : List Value} {n : Nat} {t : jk_T} {σ : jk_I} {ρ : jk_P} {rc rs : Nat} {Q : jk_Q} {X : jk_X} {x index : Nat} {g : Int → Int} {B a b c : Int} (hz : zz_ok G) (hx : zx_ok G) (hzn : zn_ok G) (hzn2 : zn2_ok G) (hln : ln_at t ρ x) (hr : cl_rel σ (x + 2) g) (hok : st_ok B g) (hnn : cl_nn σ (x + 2)) (hw : Cond.methodLink (jk_own M) index yL_act ∈ jk_WS) (hdep : Nat.ble 35 (jk_d M) = true) (hlen : Nat.ble rest.length 4 = true) (hmc : 6 ≤ rc) (hms : 36 ≤ rs) (htb : jk_tb M = []) (hd : decode (jk_cc M) pc = .ok (.invokestatic index, 3)) (hp : pc + 3 = q)
    (kk : ∀ n' σ', n ≤ n' → ln_fr x σ σ' → jk_J G M q ls (jI (qa_mc g a) :: rest) n' t σ' ρ (rc - 6) (rs - 36) Q X) : jk_J G M pc ls (jI c :: jI b :: jI a :: jI 18 :: .ref x :: rest) n t σ ρ rc rs Q X := by
  have K := c_X12_misclosure (G := G) (n := n) (t := t) (σ := σ) (ρ := ρ) (p := jk_w a) hz hx hln hr hok.1 hnn hok.2 (jk_w_in a)
  rw [jk_wI a] at K
  exact jq_act (q := q) (As := [.ref x, jI 18, jI a, jI b, jI c]) (w_act_18 hzn hzn2 hln.1 K (fun v' n' t' σ' ρ' h => ⟨_, h.2.1⟩) (fun E n' t' σ' ρ' h => ex_2c h.2.1)) (fun v' n' t' σ' ρ' h => hq_of h) hw rfl hdep hlen hmc hms htb hd hp kk
def qa_di (g : Int → Int) (a : Int) : Int := if (md_q_di g (jk_w a)).1 = 0 then (md_q_di g (jk_w a)).2 else ac_c (ex_2 "java/lang/IndexOutOfBoundsException" "java/util/NoSuchElementException" (md_q_di g (jk_w a)).1)
theorem jq_act_22 {G : jk_G} {M : jk_M} {pc q : Nat} {ls : List (Option Value)} {rest : List Value} {n : Nat} {t : jk_T} {σ : jk_I} {ρ : jk_P} {rc rs : Nat} {Q : jk_Q} {X : jk_X} {x index : Nat} {g : Int → Int} {B a b c : Int} (hz : zz_ok G) (hx : zx_ok G) (hzn : zn_ok G) (hzn2 : zn2_ok G) (hln : ln_at t ρ x) (hr : cl_rel σ (x + 2) g) (hok : st_ok B g) (hnn : cl_nn σ (x + 2)) (hw : Cond.methodLink (jk_own M) index yL_act ∈ jk_WS) (hdep : Nat.ble 35 (jk_d M) = true) (hlen : Nat.ble rest.length 4 = true) (hmc : 6 ≤ rc) (hms : 36 ≤ rs) (htb : jk_tb M = []) (hd : decode (jk_cc M) pc = .ok (.invokestatic index, 3)) (hp : pc + 3 = q)
    (kk : ∀ n' σ', n ≤ n' → ln_fr x σ σ' → jk_J G M q ls (jI (qa_di g a) :: rest) n' t σ' ρ (rc - 6) (rs - 36) Q X) : jk_J G M pc ls (jI c :: jI b :: jI a :: jI 22 :: .ref x :: rest) n t σ ρ rc rs Q X := by
  have K := c_X12_discrepancy (G := G) (n := n) (t := t) (σ := σ) (ρ := ρ) (p := jk_w a) hz hx hln hr hok.1 hnn hok.2 (jk_w_in a)
  rw [jk_wI a] at K
  exact jq_act (q := q) (As := [.ref x, jI 22, jI a, jI b, jI c]) (w_act_22 hzn hzn2 hln.1 K (fun v' n' t' σ' ρ' h => ⟨_, h.2.1⟩) (fun E n' t' σ' ρ' h => ex_2c h.2.1)) (fun v' n' t' σ' ρ' h => hq_of h) hw rfl hdep hlen hmc hms htb hd hp kk
end PE
