section PK
variable {G : jk_G} {M : jk_M} {pc q : Nat} {ls : List (Option Value)} {st : List Value} {n : Nat} {t : jk_T} {σ : jk_I} {ρ : jk_P} {rc rs : Nat} {Q : jk_Q} {X : jk_X} {o v K : Nat} {S : ps_S} {B sp : Int} {sv9 Bf : Int → Int} {e f : Int} {Lo : List Int}
theorem pX_up {n' : Nat} {t' : jk_T} {σ' : jk_I} {ρ' : jk_P} (h : pX o v K S B sp sv9 Bf e f Lo n t σ ρ) (hn : n ≤ n') (hf : ∀ a, a < n → t' a = t a ∧ σ' a = σ a ∧ ρ' a = ρ a) : pX o v K S B sp sv9 Bf e f Lo n' t' σ' ρ' := by
  obtain ⟨c1, c2, c3, c4⟩ := h.2.1
  exact pX_same h hn (fun a h1 h2 => (hf a (by omega)).1) (fun a h1 h2 => (hf a (by omega)).2.2) (fun a h1 h2 h3 => (hf a (by omega)).2.1)
theorem pF_id (h : pX o v K S B sp sv9 Bf e f Lo n t σ ρ) : pF o v n t σ ρ n t σ ρ := ⟨Nat.le_refl _, fun _ _ => rfl, fun _ _ _ => rfl, fun _ _ _ _ => rfl⟩
/-- a query -/
theorem jr_q {y : MethodName} {M1 : jk_M} {mc ms index na : Nat} {As rest : List Value} {k : Int} {val : Value} {X1 : jk_X} (h1 : pX o v K S B sp sv9 Bf e f Lo n t σ ρ) (hK : jk_K G y M1 mc ms (.ref o :: As) n t σ ρ (ln_RQ o k val σ n t ρ) X1) (hX1 : ∀ E n' t' σ' ρ', X1 E n' t' σ' ρ' → k ≠ 0) (hk : k = 0) (hm : jk_mV y M1 na) (hw : Cond.methodLink (jk_own M) index y ∈ jk_WS) (hcl : (jk_cl 12).1 = y.cls) (hna : As.length = na) (hdep : Nat.ble (jk_d M1 + 1) (jk_d M) = true) (hlen : Nat.ble rest.length 4 = true) (hmc : mc ≤ rc) (hms : ms ≤ rs) (htb : jk_tb M = [])
    (hd : decode (jk_cc M) pc = .ok (.invokevirtual index, 3)) (hp : pc + 3 = q) (kk : ∀ σ', pX o v K S B sp sv9 Bf e f Lo n t σ' ρ → pF o v n t σ ρ n t σ' ρ → jk_J G M q ls (val :: rest) n t σ' ρ (rc - mc) (rs - ms) Q X) : jk_J G M pc ls (As.reverse ++ .ref o :: rest) n t σ ρ rc rs Q X := by
  refine jk_callV (q := q) (k := 12) hK hm hw hcl h1.1.1.1.1 hna (Nat.le_of_ble_eq_true hdep) (Nat.le_of_ble_eq_true hlen) hmc hms (fun x hx => by rw [htb] at hx; cases hx) hd hp (fun v' n' t' σ' ρ' hq => ?_) (fun E n' t' σ' ρ' hx9 => absurd hk (hX1 _ _ _ _ _ hx9))
  obtain ⟨-, rfl, rfl, rfl, rfl, hf⟩ := hq
  obtain ⟨g1, g2⟩ := pX_q h1 (Nat.le_refl _) hf
  exact kk σ' g1 g2
theorem ln_RX_k {x : Nat} {k : Int} {ex : Int → String} {E : String} {n' : Nat} {t' : jk_T} {σ' : jk_I} {ρ' : jk_P} (h : ln_RX x k ex σ n t ρ E n' t' σ' ρ') : k ≠ 0 := h.1
/-- a change that is made -/
theorem jr_c {y : MethodName} {M1 : jk_M} {index na k : Nat} {As rest : List Value} {a b c d val : Int} {g' : Int → Int} (h1 : pX o v K S B sp sv9 Bf e f Lo n t σ ρ) (hK : jk_K G y M1 1 6 (.ref o :: As) n t σ ρ (ln_CQ o S.2.1 S.2.2 S.1 (cl_do k S.1 a b c d) σ n t ρ) (ln_CX o k (cl_do k S.1 a b c d) σ n t ρ)) (hr : cl_do k S.1 a b c d = (0, val, g')) (hB : B + 85 ≤ 1100000) (hm : jk_mV y M1 na) (hw : Cond.methodLink (jk_own M) index y ∈ jk_WS) (hcl : (jk_cl 12).1 = y.cls) (hna : As.length = na) (hdep : Nat.ble (jk_d M1 + 1) (jk_d M) = true) (hlen : Nat.ble rest.length 4 = true) (hmc : 1 ≤ rc) (hms : 6 ≤ rs) (htb : jk_tb M = [])
    (hd : decode (jk_cc M) pc = .ok (.invokevirtual index, 3)) (hp : pc + 3 = q) (kk : ∀ σ', pX o v K (g', hs_pc S.2.1, hs_pH S.2.1 S.2.2 S.1) (B + 85) sp sv9 Bf e f Lo n t σ' ρ → pF o v n t σ ρ n t σ' ρ → jk_J G M q ls (jI val :: rest) n t σ' ρ (rc - 1) (rs - 6) Q X) : jk_J G M pc ls (As.reverse ++ .ref o :: rest) n t σ ρ rc rs Q X := by
  have hok := md_all_cl h1.1.2.1.1 hB k a b c d
  have hsi := md_sit_cl h1.1.2.1.1.1 h1.1.2.1.2 k a b c d
  rw [hr] at hK hok hsi
  refine jk_callV (q := q) (k := 12) hK hm hw hcl h1.1.1.1.1 hna (Nat.le_of_ble_eq_true hdep) (Nat.le_of_ble_eq_true hlen) hmc hms (fun x hx => by rw [htb] at hx; cases hx) hd hp (fun v' n' t' σ' ρ' hq => ?_) (fun E n' t' σ' ρ' hx9 => absurd rfl hx9.1)
  obtain ⟨-, rfl, rfl, rfl, rfl, g6, g7, g8, g9⟩ := hq
  have hok2 : pc_ok (B + 85) (g', hs_pc S.2.1, hs_pH S.2.1 S.2.2 S.1) := pc_ok_push h1.1.2 (by omega) hB ⟨hok, hsi⟩
  obtain ⟨k1, k2⟩ := pX_c (S9 := (g', hs_pc S.2.1, hs_pH S.2.1 S.2.2 S.1)) h1 (Nat.le_refl _) ⟨h1.1.1.1, g6, g7, g8⟩ hok2 (by omega) hB g9
  exact kk σ' k1 k2
/-- undo -/
theorem jr_undo {index : Nat} {rest : List Value} (hz : zz_ok G) (hx : zx_ok G) (h1 : pX o v K S B sp sv9 Bf e f Lo n t σ ρ) (hc : 0 < S.2.1) (hw : Cond.methodLink (jk_own M) index yX12_undo ∈ jk_WS) (hdep : Nat.ble (jk_d mX12_undo + 1) (jk_d M) = true) (hlen : Nat.ble rest.length 4 = true) (hmc : 1 ≤ rc) (hms : 6 ≤ rs) (htb : jk_tb M = [])
    (hd : decode (jk_cc M) pc = .ok (.invokevirtual index, 3)) (hp : pc + 3 = q) (kk : ∀ σ', pX o v K (S.2.2 (S.2.1 - 1), S.2.1 - 1, S.2.2) B sp sv9 Bf e f Lo n t σ' ρ → pF o v n t σ ρ n t σ' ρ → jk_J G M q ls (jI ((S.2.1 : Int) - 1) :: rest) n t σ' ρ (rc - 1) (rs - 6) Q X) : jk_J G M pc ls (.ref o :: rest) n t σ ρ rc rs Q X := by
  have hK := c_X12_undo (G := G) (n := n) (t := t) (σ := σ) (ρ := ρ) (x := o) (B := B) hz hx h1.1.1.1 h1.1.1.2.1 h1.1.2.1.1 h1.1.1.2.2.1 h1.1.2.1.2 h1.1.1.2.2.2 (fun j hj => (h1.1.2.2.2 j hj).1.1)
  refine jk_callV (q := q) (k := 12) (As := []) hK jm_X12_undo hw rfl h1.1.1.1.1 rfl (Nat.le_of_ble_eq_true hdep) (Nat.le_of_ble_eq_true hlen) hmc hms (fun x hx => by rw [htb] at hx; cases hx) hd hp (fun v' n' t' σ' ρ' hq => ?_) (fun E n' t' σ' ρ' hx9 => by omega)
  obtain ⟨-, rfl, rfl, rfl, rfl, g6, g7, g8, g9⟩ := hq
  have hok2 : pc_ok B (S.2.2 (S.2.1 - 1), S.2.1 - 1, S.2.2) := ⟨h1.1.2.2.2 _ (by omega), by have := h1.1.2.2.1; show S.2.1 - 1 ≤ 8; omega, fun j hj => h1.1.2.2.2 j (by have hj2 : j < S.2.1 - 1 := hj; omega)⟩
  obtain ⟨k1, k2⟩ := pX_c (S9 := (S.2.2 (S.2.1 - 1), S.2.1 - 1, S.2.2)) h1 (Nat.le_refl _) ⟨h1.1.1.1, g6, g7, g8⟩ hok2 (Int.le_refl _) h1.1.2.1.1.1.2.2.2.2.2.2.1.2 g9
  exact kk σ' k1 k2
/-- save -/
theorem jr_save {index : Nat} {rest : List Value} (hz : zz_ok G) (hx : zx_ok G) (h1 : pX o v K S B sp sv9 Bf e f Lo n t σ ρ) (hw : Cond.methodLink (jk_own M) index yX12_save ∈ jk_WS) (hdep : Nat.ble (jk_d mX12_save + 1) (jk_d M) = true) (hlen : Nat.ble rest.length 4 = true) (htb : jk_tb M = [])
    (hd : decode (jk_cc M) pc = .ok (.invokevirtual index, 3)) (hp : pc + 3 = q) (kk : ∀ σ', pX o v K S B 1 S.1 Bf e f Lo n t σ' ρ → pF o v n t σ ρ n t σ' ρ → jk_J G M q ls (jI (S.1 1) :: rest) n t σ' ρ rc rs Q X) : jk_J G M pc ls (.ref o :: rest) n t σ ρ rc rs Q X := by
  have hK := c_X12_save (G := G) (n := n) (t := t) (σ := σ) (ρ := ρ) (x := o) (B := B) hz hx h1.1.1.1 h1.1.1.2.1 h1.1.2.1.1 h1.1.1.2.2.1 h1.1.2.1.2
  refine jk_callV (q := q) (k := 12) (mc := 0) (ms := 0) (As := []) hK jm_X12_save hw rfl h1.1.1.1.1 rfl (Nat.le_of_ble_eq_true hdep) (Nat.le_of_ble_eq_true hlen) (Nat.zero_le _) (Nat.zero_le _) (fun x hx => by rw [htb] at hx; cases hx) hd hp (fun v' n' t' σ' ρ' hq => ?_) (fun E n' t' σ' ρ' hx9 => hx9.elim)
  obtain ⟨rfl, rfl, rfl, rfl, g6, g7, g8, g9⟩ := hq
  obtain ⟨⟨⟨a1, a2, a3, a4⟩, b⟩, ⟨c1, c2, c3, c4⟩, ⟨d1, d2⟩, e0, ⟨f1, f2, f3, f4⟩, g0, i0, j0, k0⟩ := id h1
  refine kk σ' ⟨⟨⟨a1, cl_rel_same (st_2 b.1) (fun a h1 h2 => g9 a (by omega) (by omega)) a2, cl_nn_same (fun q hq => g9 _ (by omega) (by omega)) a3, hs_rel_fr a4 (fun j hj => st_2 (b.2.2 j hj)) (fun a h1 h2 => g9 a (by omega) (by omega))⟩, b⟩, ⟨c1, c2, c3, c4⟩, ⟨cl_nn_same (fun q hq => g9 _ (by omega) (by omega)) d1, g7 d2⟩, bd_same e0 (g9 _ (by omega) (by omega)) (g9 _ (by omega) (by omega)), ⟨?_, ?_, ?_, ?_⟩, fun _ => ⟨g6, b.1⟩, ?_, fun i hi => ?_, k0⟩ ⟨Nat.le_refl _, fun _ _ => rfl, fun _ _ _ => rfl, fun a _ h _ => g9 a (by omega) (by omega)⟩
  · rw [g8, jk_set_at]
  · rw [g8, jk_set_ne _ _ (by decide)]; exact f2
  · rw [g8, jk_set_ne _ _ (by decide)]; exact f3
  · rw [g9 _ (by omega) (by omega)]; exact f4
  · rw [g9 _ (by omega) (by omega)]; exact i0
  · rw [g9 _ (by omega) (by omega)]; exact j0 i hi
/-- restore -/
theorem jr_restore {index : Nat} {rest : List Value} (hz : zz_ok G) (hx : zx_ok G) (h1 : pX o v K S B sp sv9 Bf e f Lo n t σ ρ) (hsp : sp = 1) (hw : Cond.methodLink (jk_own M) index yX12_restore ∈ jk_WS) (hdep : Nat.ble (jk_d mX12_restore + 1) (jk_d M) = true) (hlen : Nat.ble rest.length 4 = true) (hmc : 1 ≤ rc) (hms : 6 ≤ rs) (htb : jk_tb M = [])
    (hd : decode (jk_cc M) pc = .ok (.invokevirtual index, 3)) (hp : pc + 3 = q) (kk : ∀ σ', ln_at t ρ o → cl_rel σ' (o + 2) sv9 → st_ok B sv9 → cl_nn σ' (o + 2) → jk_J G M q ls (jI (sv9 1) :: rest) n t σ' ρ (rc - 1) (rs - 6) Q X) : jk_J G M pc ls (.ref o :: rest) n t σ ρ rc rs Q X := by
  obtain ⟨⟨⟨a1, a2, a3, a4⟩, b⟩, ⟨c1, c2, c3, c4⟩, ⟨d1, d2⟩, e0, ⟨f1, f2, f3, f4⟩, g0, i0, j0, k0⟩ := id h1
  have hK := c_X12_restore (G := G) (n := n) (t := t) (σ := σ) (ρ := ρ) (x := o) (B := B) (sv := sv9) (B2 := B) hz hx a1 a2 b.1.1 a3 b.1.2 (Or.inr (by rw [f1]; exact hsp)) (fun _ => (g0 hsp).1) (g0 hsp).2.1.1 d2
  refine jk_callV (q := q) (k := 12) (As := []) hK jm_X12_restore hw rfl a1.1 rfl (Nat.le_of_ble_eq_true hdep) (Nat.le_of_ble_eq_true hlen) hmc hms (fun x hx => by rw [htb] at hx; cases hx) hd hp (fun v' n' t' σ' ρ' hq => ?_) (fun E n' t' σ' ρ' hx9 => by have := hx9.1; omega)
  obtain ⟨-, rfl, rfl, rfl, rfl, g6, g7, g8, g9⟩ := hq
  exact kk σ' a1 g6 (g0 hsp).2 g7
/-- text typed and not yet run: ty letters -/
def pT (o v K : Nat) (S : ps_S) (B sp : Int) (sv9 Bf : Int → Int) (e f : Int) (Lo : List Int) (ty : Int) (n : Nat) (t : jk_T) (σ : jk_I) (ρ : jk_P) : Prop := ∃ σ0 B0, pX o v K S B sp sv9 B0 e f Lo n t σ0 ρ ∧ σ (o + 552) = Bf ∧ σ (o + 550) = jk_set (σ0 (o + 550)) 1 ty ∧ (∀ b, b ≠ o + 550 → b ≠ o + 552 → σ b = σ0 b) ∧ (∀ j, 0 ≤ j ∧ j < 60 → 0 ≤ Bf j ∧ Bf j < 65536) ∧ 0 ≤ ty ∧ ty ≤ 60
theorem jr_put {index a : Nat} {L : List Int} {rest : List Value} (hz : zz_ok G) (hx : zx_ok G) (hv : zv_ok G) (h1 : pX o v K S B sp sv9 Bf e f Lo n t σ ρ) (hs : st_is G t ρ σ a L) (htx : tx_ok L = true) (hw : Cond.methodLink (jk_own M) index yL_put ∈ jk_WS) (hdep : Nat.ble 35 (jk_d M) = true) (hlen : Nat.ble rest.length 4 = true) (hmc : 60 ≤ rc) (hms : 360 ≤ rs) (htb : jk_tb M = [])
    (hd : decode (jk_cc M) pc = .ok (.invokestatic index, 3)) (hp : pc + 3 = q) (kk : ∀ σ', pT o v K S B sp sv9 (bf_k Bf L L.length) e f Lo ((L.length : Nat) : Int) n t σ' ρ → pF o v n t σ ρ n t σ' ρ → jk_J G M q ls rest n t σ' ρ (rc - 60) (rs - 360) Q X) : jk_J G M pc ls (.ref a :: .ref o :: rest) n t σ ρ rc rs Q X := by
  obtain ⟨h60, hch⟩ := tx_at htx
  refine jk_cS2g (q := q) (c_put hz hx hv h1.1.1 h1.1.2 hs htx h1.2.2.2.2.2.2.1 h1.2.2.2.2.1.2.2.2) jm_L_put hw hdep hlen hmc hms htb hd hp (fun v' n' t' σ' ρ' hq => ?_) (fun _ _ _ _ _ h => h.elim)
  obtain ⟨rfl, rfl, rfl, rfl, p1, p2, p3⟩ := hq
  refine kk σ' ⟨σ, Bf, h1, p1, p2, p3, fun j hj => ?_, by omega, by omega⟩ ⟨Nat.le_refl _, fun _ _ => rfl, fun _ _ _ => rfl, fun b _ h _ => p3 b (by omega) (by omega)⟩
  unfold bf_k
  split
  · rename_i h
    have := hch j.toNat (by omega)
    omega
  · exact h1.2.2.2.2.2.2.2.2.1 j hj
/-- what a run of the script leaves -/
theorem pX_run {S9 : ps_S} {B9 e9 f9 ty : Int} {n' : Nat} {σ' : jk_I} {ρ' : jk_P} (hT : pT o v K S B sp sv9 Bf e f Lo ty n t σ ρ) (hn : n ≤ n') (hok : pc_ok B9 S9) (hB : B ≤ B9) (hB2 : B9 ≤ 1100000) (h1 : cl_rel σ' (o + 2) S9.1) (h2 : hs_rel σ' (o + 140) S9.2.1 S9.2.2) (h3 : rn_c o σ ρ σ' ρ') (hx3 : σ' o 3 = σ o 3) (hx13 : σ' o 13 = e9) (hx14 : σ' o 14 = f9) (he : -1 ≤ e9 ∧ e9 ≤ 100) (hf : -1 ≤ f9 ∧ f9 ≤ 100) : pX o v K S9 B9 sp sv9 Bf e9 f9 Lo n' t σ' ρ' ∧ pF o v n t σ ρ n' t σ' ρ' := by
  obtain ⟨σ0, B0, hX, p1, p2, p3, p4, p5, p6⟩ := hT
  obtain ⟨⟨⟨a1, a2, a3, a4⟩, b⟩, ⟨c1, c2, c3, c4⟩, ⟨d1, d2⟩, e0, ⟨f1, f2, f3, f4⟩, g0, i0, j0, k0⟩ := hX
  obtain ⟨r1, r2, r3, r4, r5, r6⟩ := h3
  have hs : ∀ a, a ≠ o → (a < o + 2 ∨ o + 94 ≤ a) → (a < o + 140 ∨ o + 546 ≤ a) → a ≠ o + 550 → a ≠ o + 552 → (a < o + 558 ∨ o + 578 ≤ a) → σ' a = σ0 a := fun a q0 q1 q2 q3 q4 q5 => (r5 a q0 q1 q2 q3 (fun i hi => by omega)).trans (p3 a q3 q4)
  refine ⟨⟨⟨⟨ln_at_rho a1 r6, h1, r1, h2⟩, hok⟩, ⟨c1, by omega, c3, by omega⟩, ⟨r2, cl_nn_same (fun q hq => hs _ (by omega) (by omega) (by omega) (by omega) (by omega) (by omega)) d2⟩, bd_is_ext e0 ⟨rfl, r6 _ (by omega), hs _ (by omega) (by omega) (by omega) (by omega) (by omega) (by omega)⟩ ⟨rfl, hs _ (by omega) (by omega) (by omega) (by omega) (by omega) (by omega)⟩, ⟨?_, hx13, hx14, r3⟩, fun h => ⟨cl_rel_same (st_2 (g0 h).2) (fun a h1 h2 => hs a (by omega) (by omega) (by omega) (by omega) (by omega) (by omega)) (g0 h).1, st_ok_up (g0 h).2 hB hB2⟩, ?_, r4, p4, he, hf⟩, hn, fun _ _ => rfl, fun a _ h => r6 a (by omega), fun a _ h h9 => ?_⟩
  · rw [hx3, p3 o (by omega) (by omega)]; exact f1
  · rw [r5 (o + 552) (by omega) (by omega) (by omega) (by omega) (fun i hi => by omega)]; exact p1
  · exact r5 a (by omega) (by omega) (by omega) (by omega) (fun i hi => by omega)
theorem md_sit_gk {B : Int} {g : Int → Int} (h : md_all B g) (hs : md_sit g) (P : Int → Int) : ∀ k : Nat, B + 85 * (k : Int) ≤ 1100000 → md_sit (md_gk P g k)
  | 0, _ => hs
  | k + 1, hB => md_sit_do (md_all_gk h P k (by push_cast at hB; omega)).1 (md_sit_gk h hs P k (by push_cast at hB; omega)) P _
section PKR
variable {ty : Int} {P0 : Int → Int}
theorem c_run {x9 : Nat} (hz : zz_ok G) (hx : zx_ok G) (hv : zv_ok G) (hT : pT o v K S B sp sv9 Bf e f Lo ty n t σ ρ) (hB : B ≤ 1000000) : jk_K G yX12_runScript mX12_runScript 1 6 [.ref o] n t σ ρ (fun v' n' t' σ' ρ' => md_w2 Bf ty P0 = false ∧ md_ff Bf ty P0 S.1 = -1 ∧ v' = some (jI (md_cn Bf ty P0 : Nat)) ∧ n' = n ∧ t' = t ∧ cl_rel σ' (o + 2) (md_gk (md_x Bf ty P0).2 S.1 (md_cn Bf ty P0)) ∧ hs_rel σ' (o + 140) (hs_pc S.2.1) (hs_pH S.2.1 S.2.2 S.1) ∧ md_cn Bf ty P0 ≤ 10 ∧ σ' o = σ o ∧ rn_c o σ ρ σ' ρ') (fun E n' t' σ' ρ' => n ≤ n' ∧ t' = t ∧ cl_rel σ' (o + 2) S.1 ∧ hs_rel σ' (o + 140) S.2.1 S.2.2 ∧ rn_c o σ ρ σ' ρ' ∧ ((md_w2 Bf ty P0 = true ∧ E = "java/lang/IllegalArgumentException" ∧ σ' o = jk_set (σ o) 13 (md_x Bf ty P0).1.1) ∨ (md_w2 Bf ty P0 = false ∧ md_ff Bf ty P0 S.1 ≠ -1 ∧ E = "java/lang/IllegalStateException" ∧ σ' o = jk_set (σ o) 14 (md_ff Bf ty P0 S.1)))) := by
  obtain ⟨σ0, B0, hX, p1, p2, p3, p4, p5, p6⟩ := hT
  obtain ⟨⟨⟨a1, a2, a3, a4⟩, b⟩, ⟨c1, c2, c3, c4⟩, ⟨d1, d2⟩, e0, ⟨f1, f2, f3, f4⟩, g0, i0, j0, k0⟩ := hX
  exact c_X12_runScript (Bf := Bf) (P0 := P0) (ty := ty) hz hx a1 (cl_rel_same (st_2 b.1) (fun a h1 h2 => p3 a (by omega) (by omega)) a2) b.1.1 (cl_nn_same (fun q hq => p3 _ (by omega) (by omega)) a3) b.1.2 hv hB (hs_rel_fr a4 (fun j hj => st_2 (b.2.2 j hj)) (fun a h1 h2 => p3 a (by omega) (by omega))) (fun j hj => st_2 (b.2.2 j hj)) (cl_nn_same (fun q hq => p3 _ (by omega) (by omega)) d1) (by rw [p2, jk_set_at]) p1 p4 ⟨p5, p6⟩ (fun i hi => by rw [p3 _ (by omega) (by omega)]; exact j0 i hi)
/-- a script that is carried out -/
theorem jr_run {index N : Nat} {rest : List Value} {g' : Int → Int} (hz : zz_ok G) (hx : zx_ok G) (hv : zv_ok G) (hT : pT o v K S B sp sv9 Bf e f Lo ty n t σ ρ) (hB : B ≤ 1000000) (hw2 : md_w2 Bf ty P0 = false) (hff : md_ff Bf ty P0 S.1 = -1) (hcn : md_cn Bf ty P0 = N) (hgk : md_gk (md_x Bf ty P0).2 S.1 N = g') (hw : Cond.methodLink (jk_own M) index yX12_runScript ∈ jk_WS) (hdep : Nat.ble (jk_d mX12_runScript + 1) (jk_d M) = true) (hlen : Nat.ble rest.length 4 = true) (hmc : 1 ≤ rc) (hms : 6 ≤ rs) (htb : jk_tb M = [])
    (hd : decode (jk_cc M) pc = .ok (.invokevirtual index, 3)) (hp : pc + 3 = q) (kk : ∀ σ' ρ', pX o v K (g', hs_pc S.2.1, hs_pH S.2.1 S.2.2 S.1) (B + 850) sp sv9 Bf e f Lo n t σ' ρ' → pF o v n t σ ρ n t σ' ρ' → jk_J G M q ls (jI (N : Int) :: rest) n t σ' ρ' (rc - 1) (rs - 6) Q X) : jk_J G M pc ls (.ref o :: rest) n t σ ρ rc rs Q X := by
  obtain ⟨σ0, B0, hX, p1, p2, p3, p4, p5, p6⟩ := id hT
  have ht : t o = some (.inr 12) := hX.1.1.1.1
  refine jk_callV (q := q) (k := 12) (As := []) (c_run (x9 := 0) (P0 := P0) hz hx hv hT hB) jm_X12_runScript hw rfl ht rfl (Nat.le_of_ble_eq_true hdep) (Nat.le_of_ble_eq_true hlen) hmc hms (fun x hx => by rw [htb] at hx; cases hx) hd hp (fun v' n' t' σ' ρ' hq => ?_) (fun E n' t' σ' ρ' hx9 => ?_)
  · obtain ⟨-, -, rfl, rfl, rfl, g6, g7, g8, g9, g10⟩ := hq
    rw [hcn] at g6 g8 ⊢
    rw [hgk] at g6
    have hok1 := md_all_gk hX.1.2.1.1 (md_x Bf ty P0).2 N (by omega)
    have hsi1 := md_sit_gk hX.1.2.1.1 hX.1.2.1.2 (md_x Bf ty P0).2 N (by omega)
    rw [hgk] at hok1 hsi1
    obtain ⟨k1, k2⟩ := pX_run (S9 := (g', hs_pc S.2.1, hs_pH S.2.1 S.2.2 S.1)) (B9 := B + 850) (e9 := e) (f9 := f) hT (Nat.le_refl _) (pc_ok_push hX.1.2 (by omega) (by omega) (st_ok_up ⟨hok1, hsi1⟩ (by omega) (by omega))) (by omega) (by omega) g6 g7 g10 (by rw [g9]) (by rw [g9, p3 o (by omega) (by omega)]; exact hX.2.2.2.2.1.2.1) (by rw [g9, p3 o (by omega) (by omega)]; exact hX.2.2.2.2.1.2.2.1) hX.2.2.2.2.2.2.2.2.2.1 hX.2.2.2.2.2.2.2.2.2.2
    exact kk σ' ρ' k1 k2
  · exfalso
    rcases hx9.2.2.2.2.2 with h | h
    · rw [hw2] at h; exact absurd h.1 (by decide)
    · exact h.2.1 hff
/-- a script that is not -/
def rf_Q (o v K : Nat) (S : ps_S) (B sp : Int) (sv9 Bf : Int → Int) (e9 f9 : Int) (Lo : List Int) (r : Int) (n : Nat) (t : jk_T) (σ : jk_I) (ρ : jk_P) : jk_Q := fun v' n' t' σ' ρ' => v' = some (jI r) ∧ t' = t ∧ pX o v K S B sp sv9 Bf e9 f9 Lo n' t σ' ρ' ∧ pF o v n t σ ρ n' t σ' ρ'
theorem c_runs1 (hz : zz_ok G) (hx : zx_ok G) (hv : zv_ok G) (hzn : zn_ok G) (hzn2 : zn2_ok G) (hT : pT o v K S B sp sv9 Bf e f Lo ty n t σ ρ) (hB : B ≤ 1000000) {ps : Int} (hw2 : md_w2 Bf ty P0 = true) (hps : (md_x Bf ty P0).1.1 = ps) (hpb : -1 ≤ ps ∧ ps ≤ 100) : ∀ v' n' t' σ' ρ', ru_Q (fun v' n' t' σ' ρ' => md_w2 Bf ty P0 = false ∧ md_ff Bf ty P0 S.1 = -1 ∧ v' = some (jI (md_cn Bf ty P0 : Nat)) ∧ n' = n ∧ t' = t ∧ cl_rel σ' (o + 2) (md_gk (md_x Bf ty P0).2 S.1 (md_cn Bf ty P0)) ∧ hs_rel σ' (o + 140) (hs_pc S.2.1) (hs_pH S.2.1 S.2.2 S.1) ∧ md_cn Bf ty P0 ≤ 10 ∧ σ' o = σ o ∧ rn_c o σ ρ σ' ρ') (fun E n' t' σ' ρ' => n ≤ n' ∧ t' = t ∧ cl_rel σ' (o + 2) S.1 ∧ hs_rel σ' (o + 140) S.2.1 S.2.2 ∧ rn_c o σ ρ σ' ρ' ∧ ((md_w2 Bf ty P0 = true ∧ E = "java/lang/IllegalArgumentException" ∧ σ' o = jk_set (σ o) 13 (md_x Bf ty P0).1.1) ∨ (md_w2 Bf ty P0 = false ∧ md_ff Bf ty P0 S.1 ≠ -1 ∧ E = "java/lang/IllegalStateException" ∧ σ' o = jk_set (σ o) 14 (md_ff Bf ty P0 S.1)))) v' n' t' σ' ρ' → rf_Q o v K S B sp sv9 Bf ps f Lo (-1) n t σ ρ v' n' t' σ' ρ' := by
  intro v' n' t' σ' ρ' h
  obtain ⟨σ0, B0, hX, p1, p2, p3, p4, p5, p6⟩ := id hT
  rcases h with ⟨g1, -⟩ | ⟨E, ⟨g1, g2, g3, g4, g5, g6⟩, g7⟩
  · rw [hw2] at g1; exact absurd g1 (by decide)
  · rcases g6 with ⟨-, rfl, g8⟩ | ⟨g8, -⟩
    · obtain ⟨k1, k2⟩ := pX_run (S9 := S) (B9 := B) (e9 := ps) (f9 := f) hT g1 hX.1.2 (Int.le_refl _) (by omega) g3 g4 g5 (by rw [g8, jk_set_ne _ _ (by decide)]) (by rw [g8, jk_set_at]; exact hps) (by rw [g8, jk_set_ne _ _ (by decide), p3 o (by omega) (by omega)]; exact hX.2.2.2.2.1.2.2.1) hpb hX.2.2.2.2.2.2.2.2.2.2
      exact ⟨g7, g2, k1, k2⟩
    · rw [hw2] at g8; exact absurd g8 (by decide)
theorem c_runs2 (hT : pT o v K S B sp sv9 Bf e f Lo ty n t σ ρ) (hB : B ≤ 1000000) {ps : Int} (hw2 : md_w2 Bf ty P0 = false) (hps : md_ff Bf ty P0 S.1 = ps) (hpb : 0 ≤ ps ∧ ps ≤ 100) : ∀ v' n' t' σ' ρ', ru_Q (fun v' n' t' σ' ρ' => md_w2 Bf ty P0 = false ∧ md_ff Bf ty P0 S.1 = -1 ∧ v' = some (jI (md_cn Bf ty P0 : Nat)) ∧ n' = n ∧ t' = t ∧ cl_rel σ' (o + 2) (md_gk (md_x Bf ty P0).2 S.1 (md_cn Bf ty P0)) ∧ hs_rel σ' (o + 140) (hs_pc S.2.1) (hs_pH S.2.1 S.2.2 S.1) ∧ md_cn Bf ty P0 ≤ 10 ∧ σ' o = σ o ∧ rn_c o σ ρ σ' ρ') (fun E n' t' σ' ρ' => n ≤ n' ∧ t' = t ∧ cl_rel σ' (o + 2) S.1 ∧ hs_rel σ' (o + 140) S.2.1 S.2.2 ∧ rn_c o σ ρ σ' ρ' ∧ ((md_w2 Bf ty P0 = true ∧ E = "java/lang/IllegalArgumentException" ∧ σ' o = jk_set (σ o) 13 (md_x Bf ty P0).1.1) ∨ (md_w2 Bf ty P0 = false ∧ md_ff Bf ty P0 S.1 ≠ -1 ∧ E = "java/lang/IllegalStateException" ∧ σ' o = jk_set (σ o) 14 (md_ff Bf ty P0 S.1)))) v' n' t' σ' ρ' → rf_Q o v K S B sp sv9 Bf e ps Lo (-2) n t σ ρ v' n' t' σ' ρ' := by
  intro v' n' t' σ' ρ' h
  obtain ⟨σ0, B0, hX, p1, p2, p3, p4, p5, p6⟩ := id hT
  rcases h with ⟨-, g1, -⟩ | ⟨E, ⟨g1, g2, g3, g4, g5, g6⟩, g7⟩
  · omega
  · rcases g6 with ⟨g8, -⟩ | ⟨-, -, rfl, g8⟩
    · rw [hw2] at g8; exact absurd g8 (by decide)
    · obtain ⟨k1, k2⟩ := pX_run (S9 := S) (B9 := B) (e9 := e) (f9 := ps) hT g1 hX.1.2 (Int.le_refl _) (by omega) g3 g4 g5 (by rw [g8, jk_set_ne _ _ (by decide)]) (by rw [g8, jk_set_ne _ _ (by decide), p3 o (by omega) (by omega)]; exact hX.2.2.2.2.1.2.1) (by rw [g8, jk_set_at]; exact hps) hX.2.2.2.2.2.2.2.2.2.1 ⟨by omega, by omega⟩
      exact ⟨g7, g2, k1, k2⟩
theorem jr_runs {index : Nat} {rest : List Value} {e9 f9 r : Int} (hz : zz_ok G) (hx : zx_ok G) (hv : zv_ok G) (hzn : zn_ok G) (hzn2 : zn2_ok G) (hT : pT o v K S B sp sv9 Bf e f Lo ty n t σ ρ) (hB : B ≤ 1000000) (hw : Cond.methodLink (jk_own M) index yL_runs ∈ jk_WS) (hdep : Nat.ble 35 (jk_d M) = true) (hlen : Nat.ble rest.length 4 = true) (hmc : 1 ≤ rc) (hms : 6 ≤ rs) (htb : jk_tb M = [])
    (hd : decode (jk_cc M) pc = .ok (.invokestatic index, 3)) (hp : pc + 3 = q) (hor : (md_w2 Bf ty P0 = true ∧ (md_x Bf ty P0).1.1 = e9 ∧ f9 = f ∧ r = -1 ∧ -1 ≤ e9 ∧ e9 ≤ 100) ∨ (md_w2 Bf ty P0 = false ∧ md_ff Bf ty P0 S.1 = f9 ∧ e9 = e ∧ r = -2 ∧ 0 ≤ f9 ∧ f9 ≤ 100)) (kk : ∀ n' σ' ρ', pX o v K S B sp sv9 Bf e9 f9 Lo n' t σ' ρ' → pF o v n t σ ρ n' t σ' ρ' → jk_J G M q ls (jI r :: rest) n' t σ' ρ' (rc - 1) (rs - 6) Q X) : jk_J G M pc ls (.ref o :: rest) n t σ ρ rc rs Q X := by
  have ht9 : t o = some (.inr 12) := by
    obtain ⟨σ0, B0, hX, -⟩ := id hT
    exact hX.1.1.1.1
  have hW := w_runs hzn hzn2 ht9 (c_run (x9 := 0) (P0 := P0) hz hx hv hT hB) (fun v' n' t' σ' ρ' h => ⟨_, h.2.2.1⟩) (fun E n' t' σ' ρ' h => h.2.2.2.2.2.elim (fun h => Or.inl h.2.1) (fun h => Or.inr h.2.2.1))
  refine jk_callSH (q := q) (As := [.ref o]) hW jm_L_runs hw rfl hdep hlen hmc hms htb hd hp (fun v' n' t' σ' ρ' h => ?_) (fun _ _ _ _ _ h => h.elim)
  have hq : rf_Q o v K S B sp sv9 Bf e9 f9 Lo r n t σ ρ v' n' t' σ' ρ' := by
    rcases hor with ⟨g1, g2, rfl, rfl, g3⟩ | ⟨g1, g2, rfl, rfl, g3⟩
    · exact c_runs1 hz hx hv hzn hzn2 hT hB g1 g2 g3 _ _ _ _ _ h
    · exact c_runs2 hT hB g1 g2 g3 _ _ _ _ _ h
  obtain ⟨rfl, rfl, k1, k2⟩ := hq
  exact kk n' σ' ρ' k1 k2
end PKR
theorem pF_t {n1 n2 : Nat} {t1 t2 : jk_T} {σ1 σ2 : jk_I} {ρ1 ρ2 : jk_P} (h1 : pF o v n t σ ρ n1 t1 σ1 ρ1) (h2 : pF o v n1 t1 σ1 ρ1 n2 t2 σ2 ρ2) : pF o v n t σ ρ n2 t2 σ2 ρ2 := by
  obtain ⟨a1, a2, a3, a4⟩ := h1
  obtain ⟨b1, b2, b3, b4⟩ := h2
  exact ⟨by omega, fun a h => (b2 a (by omega)).trans (a2 a h), fun a h h' => (b3 a (by omega) h').trans (a3 a h h'), fun a h h' h9 => (b4 a (by omega) h' h9).trans (a4 a h h' h9)⟩
theorem c_fails {a : Nat} {L : List Int} {P0 : Int → Int} {ps : Int} (hz : zz_ok G) (hx : zx_ok G) (hv : zv_ok G) (hzn : zn_ok G) (hzn2 : zn2_ok G) (h1 : pX o v K S B sp sv9 Bf e f Lo n t σ ρ) (hB : B ≤ 1000000) (hs : st_is G t ρ σ a L) (htx : tx_ok L = true) (hw2 : md_w2 (bf_k Bf L L.length) ((L.length : Nat) : Int) P0 = true) (hps : (md_x (bf_k Bf L L.length) ((L.length : Nat) : Int) P0).1.1 = ps) (hpb : 0 ≤ ps ∧ ps ≤ 100) : jk_K G yL_fails mL_fails 70 400 [.ref o, .ref a, jI ps] n t σ ρ (rf_Q o v K S B sp sv9 (bf_k Bf L L.length) ps f Lo 1 n t σ ρ) jk_no := by
  refine jk_entryB (ls := [some (.ref o), some (.ref a), some (jI ps)]) jm_L_fails.1 rfl rfl rfl ?_
  refine jk_aload_n (q := 1) dL_fails_0 rfl rfl ?_
  refine jk_aload_n (q := 2) dL_fails_1 rfl rfl ?_
  refine jr_put (q := 5) hz hx hv h1 hs htx jw_1596 rfl rfl (by decide) (by decide) rfl dL_fails_2 rfl (fun σ1 hT1 hF1 => ?_)
  refine jk_aload_n (q := 6) dL_fails_5 rfl rfl ?_
  refine jr_runs (q := 9) (P0 := P0) (e9 := ps) (f9 := f) (r := -1) hz hx hv hzn hzn2 hT1 hB jw_1704 rfl rfl (by decide) (by decide) rfl dL_fails_6 rfl (Or.inl ⟨hw2, hps, rfl, rfl, by omega, by omega⟩) (fun n2 σ2 ρ2 hX2 hF2 => ?_)
  refine jk_iconst (q := 10) dL_fails_9 rfl ?_
  refine jk_icmp_ne (q := 25) (q2 := 13) dL_fails_10 rfl rfl (by decide) (by decide) (fun h => absurd rfl h) (fun _ => ?_)
  refine jk_aload_n (q := 14) dL_fails_13 rfl rfl ?_
  refine jr_q (q := 17) (As := []) hX2 (c_X12_errorPosition (x := o) (e := ps) hz hx hX2.1.1.1 hX2.1.1.2.1 hX2.1.2.1.1 hX2.1.1.2.2.1 hX2.1.2.1.2 hX2.2.2.2.2.1.2.1 ⟨by omega, by omega⟩) (fun E n' t' σ' ρ' h => h.1) (by rw [if_neg (by omega)]) jm_X12_errorPosition jw_1710 rfl rfl rfl rfl (by decide) (by decide) rfl dL_fails_14 rfl (fun σ3 hX3 hF3 => ?_)
  rw [if_neg (show ¬ ps = -1 by omega)]
  refine jk_iload_n (q := 18) dL_fails_17 rfl rfl ?_
  refine jk_icmp_ne (q := 25) (q2 := 21) dL_fails_18 rfl rfl ⟨by show -2147483648 ≤ ps; omega, by show ps < 2147483648; omega⟩ ⟨by omega, by omega⟩ (fun h => absurd rfl h) (fun _ => ?_)
  refine jk_iconst (q := 22) dL_fails_21 rfl ?_
  refine jk_goto (q := 26) dL_fails_22 rfl ?_
  exact jk_zret rfl (by decide) dL_fails_26 ⟨rfl, rfl, hX3, pF_t (pF_t hF1 hF2) hF3⟩
end PK
