section PM
theorem hs_1 {c : Nat} {H : Nat → Int → Int} {g : Int → Int} (hc : c ≤ 8) : hs_pH c H g (hs_pc c - 1) = g := by
  unfold hs_pc
  split
  · rename_i h; unfold hs_pH; rw [if_pos h, if_neg (by omega)]
  · rename_i h; unfold hs_pH; rw [if_neg h, if_neg (by omega)]
theorem hs_k {c k : Nat} {H : Nat → Int → Int} {g : Int → Int} (hc : c ≤ 8) (hk : 1 ≤ k ∧ k ≤ c ∧ k ≤ 7) : hs_pH c H g (hs_pc c - 1 - k) = H (c - k) := by
  unfold hs_pc
  split
  · rename_i h; unfold hs_pH; rw [if_pos h, if_pos (by omega), show c + 1 - 1 - k = c - k by omega]
  · rename_i h; unfold hs_pH; rw [if_neg h, if_pos (by omega), show 8 - 1 - k + 1 = c - k by omega]
theorem hs_pc_bd (c : Nat) (hc : c ≤ 8) : c ≤ hs_pc c ∧ 1 ≤ hs_pc c ∧ hs_pc c ≤ 8 ∧ (c ≤ 7 → hs_pc c = c + 1) := by
  unfold hs_pc; split <;> omega
theorem hs_3 {c : Nat} {H : Nat → Int → Int} {g g1 g2 : Int → Int} (hc : c ≤ 8) : hs_pH (hs_pc (hs_pc c)) (hs_pH (hs_pc c) (hs_pH c H g) g1) g2 (hs_pc (hs_pc (hs_pc c)) - 1 - 1 - 1) = g := by
  have b1 := hs_pc_bd c hc
  have b2 := hs_pc_bd (hs_pc c) b1.2.2.1
  rw [show hs_pc (hs_pc (hs_pc c)) - 1 - 1 - 1 = hs_pc (hs_pc (hs_pc c)) - 1 - 2 by omega, hs_k b2.2.2.1 (by omega), show hs_pc (hs_pc c) - 2 = hs_pc (hs_pc c) - 1 - 1 by omega, hs_k b1.2.2.1 (by omega), hs_1 hc]
/-- all below z is as it was -/
def kp (z : Nat) (t0 : jk_T) (σ0 : jk_I) (ρ0 : jk_P) (t : jk_T) (σ : jk_I) (ρ : jk_P) : Prop := ∀ a, a < z → t a = t0 a ∧ σ a = σ0 a ∧ ρ a = ρ0 a
section KP
variable {z zb : Nat} {t0 t t' : jk_T} {σ0 σ σ' : jk_I} {ρ0 ρ ρ' : jk_P} {v b n w n' : Nat}
theorem kp_id : kp z t σ ρ t σ ρ := fun _ _ => ⟨rfl, rfl, rfl⟩
theorem kp_F (h : kp z t0 σ0 ρ0 t σ ρ) (hf : pF b v n t σ ρ n' t' σ' ρ') (h1 : z ≤ b) (h2 : z ≤ v) (h3 : z ≤ n) : kp z t0 σ0 ρ0 t' σ' ρ' := fun a ha => by
  obtain ⟨e1, e2, e3⟩ := h a ha
  obtain ⟨-, f2, f3, f4⟩ := hf
  exact ⟨(f2 a (by omega)).trans e1, (f4 a (by omega) (by omega) (by omega)).trans e2, (f3 a (by omega) (by omega)).trans e3⟩
theorem kp_B (h : kp z t0 σ0 ρ0 t σ ρ) (hf : bd_fr b v n t σ ρ w n' t' σ' ρ') (h1 : z ≤ b) (h2 : z ≤ v) (h3 : z ≤ n) : kp z t0 σ0 ρ0 t' σ' ρ' := fun a ha => by
  obtain ⟨e1, e2, e3⟩ := h a ha
  obtain ⟨-, -, -, f2, f3, f4⟩ := hf
  exact ⟨(f2 a (by omega)).trans e1, (f4 a (by omega) (by omega) (by omega)).trans e2, (f3 a (by omega) (by omega)).trans e3⟩
theorem kp_t {t1 : jk_T} {σ1 : jk_I} {ρ1 : jk_P} (h : kp z t0 σ0 ρ0 t1 σ1 ρ1) (h2 : kp zb t1 σ1 ρ1 t σ ρ) (hz : z ≤ zb) : kp z t0 σ0 ρ0 t σ ρ := fun a ha => by
  obtain ⟨e1, e2, e3⟩ := h a ha
  obtain ⟨f1, f2, f3⟩ := h2 a (by omega)
  exact ⟨f1.trans e1, f2.trans e2, f3.trans e3⟩
end KP
theorem sm_fr {t : jk_T} {ρ : jk_P} {σ σ2 : jk_I} {x a b : Nat} {L : List Int} (h : sm_is t ρ σ a b L) (hf : ln_fr x σ σ2) (h1 : x + 546 ≤ a) (h2 : x + 546 ≤ b) : sm_is t ρ σ2 a b L := by
  obtain ⟨e1, e2, e3, e4, e5, e6⟩ := h
  exact ⟨e1, e2, e3, by rw [hf a (by omega)]; exact e4, e5, fun i hi => by rw [hf b (by omega)]; exact e6 i hi⟩
/-- a text of the law's own -/
def sx_ok (G : jk_G) (i : Nat) (tx : String) (L : List Int) : Prop := ∃ a b, (∀ s, jk_Z G s → vk_R "LevelingNetworkLaw" i tx (jk_ad G a) s) ∧ so_ok G a b L
section PMJ
variable {G : jk_G} {M : jk_M} {pc q : Nat} {ls : List (Option Value)} {st : List Value} {n : Nat} {t : jk_T} {σ : jk_I} {ρ : jk_P} {rc rs : Nat} {Q : jk_Q} {X : jk_X} {o v K : Nat} {S : ps_S} {B sp : Int} {sv9 Bf : Int → Int} {e f : Int} {Lo : List Int}
theorem jr_qv {y : MethodName} {M1 : jk_M} {mc ms index na : Nat} {As rest : List Value} {k : Int} {val w : Value} {X1 : jk_X} (h1 : pX o v K S B sp sv9 Bf e f Lo n t σ ρ) (hK : jk_K G y M1 mc ms (.ref o :: As) n t σ ρ (ln_RQ o k w σ n t ρ) X1) (hX1 : ∀ E n' t' σ' ρ', X1 E n' t' σ' ρ' → k ≠ 0) (hk : k = 0) (hv : w = val) (hm : jk_mV y M1 na) (hw : Cond.methodLink (jk_own M) index y ∈ jk_WS) (hcl : (jk_cl 12).1 = y.cls) (hna : As.length = na) (hdep : Nat.ble (jk_d M1 + 1) (jk_d M) = true) (hlen : Nat.ble rest.length 4 = true) (hmc : mc ≤ rc) (hms : ms ≤ rs) (htb : jk_tb M = [])
    (hd : decode (jk_cc M) pc = .ok (.invokevirtual index, 3)) (hp : pc + 3 = q) (kk : ∀ σ', pX o v K S B sp sv9 Bf e f Lo n t σ' ρ → pF o v n t σ ρ n t σ' ρ → jk_J G M q ls (val :: rest) n t σ' ρ (rc - mc) (rs - ms) Q X) : jk_J G M pc ls (As.reverse ++ .ref o :: rest) n t σ ρ rc rs Q X := by
  subst hv
  exact jr_q h1 hK hX1 hk hm hw hcl hna hdep hlen hmc hms htb hd hp kk
theorem jr_state {index : Nat} {rest : List Value} (hz : zz_ok G) (hx : zx_ok G) (hzn : zn_ok G) (hzn2 : zn2_ok G) (h1 : pX o v K S B sp sv9 Bf e f Lo n t σ ρ) (hw : Cond.methodLink (jk_own M) index yL_state ∈ jk_WS) (hdep : Nat.ble (jk_d mL_state + 1) (jk_d M) = true) (hlen : Nat.ble rest.length 4 = true) (hmc : 2500 ≤ rc) (hms : 20000 ≤ rs) (htb : jk_tb M = [])
    (hd : decode (jk_cc M) pc = .ok (.invokestatic index, 3)) (hp : pc + 3 = q) (kk : ∀ n' σ', pX o v K S B sp sv9 Bf e f Lo n' t σ' ρ → pF o v n t σ ρ n' t σ' ρ → jk_J G M q ls (jI (jk_w (sv S.1)) :: rest) n' t σ' ρ (rc - 2500) (rs - 20000) Q X) : jk_J G M pc ls (.ref o :: rest) n t σ ρ rc rs Q X := by
  refine jk_cS1g (q := q) (c_state (x := o) (g := S.1) (B := B) hz hx hzn hzn2 h1.1.1.1 h1.1.1.2.1 h1.1.2.1 h1.1.1.2.2.1) jm_L_state hw hdep hlen hmc hms htb hd hp (fun v' n' t' σ' ρ' hq => ?_) (fun _ _ _ _ _ h => h.elim)
  obtain ⟨rfl, hn, rfl, rfl, hf⟩ := hq
  obtain ⟨g1, g2⟩ := pX_q h1 hn hf
  exact kk n' σ' g1 g2
theorem jr_a10 {index : Nat} {rest : List Value} {a b c val : Int} (hz : zz_ok G) (hx : zx_ok G) (hzn : zn_ok G) (hzn2 : zn2_ok G) (h1 : pX o v K S B sp sv9 Bf e f Lo n t σ ρ) (hv : qa_ht S.1 a = val) (hw : Cond.methodLink (jk_own M) index yL_act ∈ jk_WS) (hdep : Nat.ble 35 (jk_d M) = true) (hlen : Nat.ble rest.length 4 = true) (hmc : 6 ≤ rc) (hms : 36 ≤ rs) (htb : jk_tb M = [])
    (hd : decode (jk_cc M) pc = .ok (.invokestatic index, 3)) (hp : pc + 3 = q) (kk : ∀ n' σ', pX o v K S B sp sv9 Bf e f Lo n' t σ' ρ → pF o v n t σ ρ n' t σ' ρ → jk_J G M q ls (jI val :: rest) n' t σ' ρ (rc - 6) (rs - 36) Q X) : jk_J G M pc ls (jI c :: jI b :: jI a :: jI 10 :: .ref o :: rest) n t σ ρ rc rs Q X := by
  subst hv
  exact jq_act_10 hz hx hzn hzn2 h1.1.1.1 h1.1.1.2.1 h1.1.2.1 h1.1.1.2.2.1 hw hdep hlen hmc hms htb hd hp (fun n' σ' hn hf => kk n' σ' (pX_q h1 hn hf).1 (pX_q h1 hn hf).2)
theorem jr_a14 {index : Nat} {rest : List Value} {a b c val : Int} (hz : zz_ok G) (hx : zx_ok G) (hzn : zn_ok G) (hzn2 : zn2_ok G) (h1 : pX o v K S B sp sv9 Bf e f Lo n t σ ρ) (hv : qa_gr S.1 a b = val) (hw : Cond.methodLink (jk_own M) index yL_act ∈ jk_WS) (hdep : Nat.ble 35 (jk_d M) = true) (hlen : Nat.ble rest.length 4 = true) (hmc : 6 ≤ rc) (hms : 36 ≤ rs) (htb : jk_tb M = [])
    (hd : decode (jk_cc M) pc = .ok (.invokestatic index, 3)) (hp : pc + 3 = q) (kk : ∀ n' σ', pX o v K S B sp sv9 Bf e f Lo n' t σ' ρ → pF o v n t σ ρ n' t σ' ρ → jk_J G M q ls (jI val :: rest) n' t σ' ρ (rc - 6) (rs - 36) Q X) : jk_J G M pc ls (jI c :: jI b :: jI a :: jI 14 :: .ref o :: rest) n t σ ρ rc rs Q X := by
  subst hv
  exact jq_act_14 hz hx hzn hzn2 h1.1.1.1 h1.1.1.2.1 h1.1.2.1 h1.1.1.2.2.1 hw hdep hlen hmc hms htb hd hp (fun n' σ' hn hf => kk n' σ' (pX_q h1 hn hf).1 (pX_q h1 hn hf).2)
theorem jr_a15 {index : Nat} {rest : List Value} {a b c val : Int} (hz : zz_ok G) (hx : zx_ok G) (hzn : zn_ok G) (hzn2 : zn2_ok G) (h1 : pX o v K S B sp sv9 Bf e f Lo n t σ ρ) (hB : B ≤ 100000) (hv : qa_wc S.1 a = val) (hw : Cond.methodLink (jk_own M) index yL_act ∈ jk_WS) (hdep : Nat.ble 35 (jk_d M) = true) (hlen : Nat.ble rest.length 4 = true) (hmc : 6 ≤ rc) (hms : 36 ≤ rs) (htb : jk_tb M = [])
    (hd : decode (jk_cc M) pc = .ok (.invokestatic index, 3)) (hp : pc + 3 = q) (kk : ∀ n' σ', pX o v K S B sp sv9 Bf e f Lo n' t σ' ρ → pF o v n t σ ρ n' t σ' ρ → jk_J G M q ls (jI val :: rest) n' t σ' ρ (rc - 6) (rs - 36) Q X) : jk_J G M pc ls (jI c :: jI b :: jI a :: jI 15 :: .ref o :: rest) n t σ ρ rc rs Q X := by
  subst hv
  exact jq_act_15 hz hx hzn hzn2 h1.1.1.1 h1.1.1.2.1 h1.1.2.1 h1.1.1.2.2.1 hB hw hdep hlen hmc hms htb hd hp (fun n' σ' hn hf => kk n' σ' (pX_q h1 hn hf).1 (pX_q h1 hn hf).2)
theorem jr_a18 {index : Nat} {rest : List Value} {a b c val : Int} (hz : zz_ok G) (hx : zx_ok G) (hzn : zn_ok G) (hzn2 : zn2_ok G) (h1 : pX o v K S B sp sv9 Bf e f Lo n t σ ρ) (hv : qa_mc S.1 a = val) (hw : Cond.methodLink (jk_own M) index yL_act ∈ jk_WS) (hdep : Nat.ble 35 (jk_d M) = true) (hlen : Nat.ble rest.length 4 = true) (hmc : 6 ≤ rc) (hms : 36 ≤ rs) (htb : jk_tb M = [])
    (hd : decode (jk_cc M) pc = .ok (.invokestatic index, 3)) (hp : pc + 3 = q) (kk : ∀ n' σ', pX o v K S B sp sv9 Bf e f Lo n' t σ' ρ → pF o v n t σ ρ n' t σ' ρ → jk_J G M q ls (jI val :: rest) n' t σ' ρ (rc - 6) (rs - 36) Q X) : jk_J G M pc ls (jI c :: jI b :: jI a :: jI 18 :: .ref o :: rest) n t σ ρ rc rs Q X := by
  subst hv
  exact jq_act_18 hz hx hzn hzn2 h1.1.1.1 h1.1.1.2.1 h1.1.2.1 h1.1.1.2.2.1 hw hdep hlen hmc hms htb hd hp (fun n' σ' hn hf => kk n' σ' (pX_q h1 hn hf).1 (pX_q h1 hn hf).2)
theorem jr_a6 {index : Nat} {rest : List Value} {a b c val : Int} (hz : zz_ok G) (hx : zx_ok G) (hzn : zn_ok G) (hzn2 : zn2_ok G) (h1 : pX o v K S B sp sv9 Bf e f Lo n t σ ρ) (h0 : (cl_do 7 S.1 (jk_w a) 0 0 0).1 ≠ 0) (hv : ac_c (ex_t (cl_tc 7 (cl_do 7 S.1 (jk_w a) 0 0 0).1)) = val) (hw : Cond.methodLink (jk_own M) index yL_act ∈ jk_WS) (hdep : Nat.ble 35 (jk_d M) = true) (hlen : Nat.ble rest.length 4 = true) (hmc : 1 ≤ rc) (hms : 6 ≤ rs) (htb : jk_tb M = [])
    (hd : decode (jk_cc M) pc = .ok (.invokestatic index, 3)) (hp : pc + 3 = q) (kk : ∀ n' σ', pX o v K S B sp sv9 Bf e f Lo n' t σ' ρ → pF o v n t σ ρ n' t σ' ρ → jk_J G M q ls (jI val :: rest) n' t σ' ρ (rc - 1) (rs - 6) Q X) : jk_J G M pc ls (jI c :: jI b :: jI a :: jI 6 :: .ref o :: rest) n t σ ρ rc rs Q X := by
  refine jc_act_6 hz hx hzn hzn2 h1.1.1 h1.1.2 hw hdep hlen hmc hms htb hd hp (fun n' σ' hn hat hf => ?_)
  have e1 : ps_do 7 S (jk_w a) 0 0 0 = S := if_neg h0
  have e2 : ps_v 7 S (jk_w a) 0 0 0 = val := (if_neg h0).trans hv
  rw [e1] at hat
  rw [e2]
  obtain ⟨k1, k2⟩ := pX_c h1 hn hat h1.1.2 (Int.le_refl _) h1.1.2.1.1.1.2.2.2.2.2.2.1.2 hf
  exact kk n' σ' k1 k2
theorem jr_a9 {index : Nat} {rest : List Value} {a b c : Int} (hz : zz_ok G) (hx : zx_ok G) (hzn : zn_ok G) (hzn2 : zn2_ok G) (h1 : pX o v K S B sp sv9 Bf e f Lo n t σ ρ) (hB : B + 85 ≤ 1100000) (ha : jk_w a = a) (ha2 : -99999 ≤ a ∧ a ≤ 99999) (hw : Cond.methodLink (jk_own M) index yL_act ∈ jk_WS) (hdep : Nat.ble 35 (jk_d M) = true) (hlen : Nat.ble rest.length 4 = true) (hmc : 1 ≤ rc) (hms : 6 ≤ rs) (htb : jk_tb M = [])
    (hd : decode (jk_cc M) pc = .ok (.invokestatic index, 3)) (hp : pc + 3 = q) (kk : ∀ n' σ', pX o v K (jk_set S.1 3 a, hs_pc S.2.1, hs_pH S.2.1 S.2.2 S.1) (B + 85) sp sv9 Bf e f Lo n' t σ' ρ → pF o v n t σ ρ n' t σ' ρ → jk_J G M q ls (jI (S.1 3) :: rest) n' t σ' ρ (rc - 1) (rs - 6) Q X) : jk_J G M pc ls (jI c :: jI b :: jI a :: jI 9 :: .ref o :: rest) n t σ ρ rc rs Q X := by
  refine jc_act_9 hz hx hzn hzn2 h1.1.1 h1.1.2 hw hdep hlen hmc hms htb hd hp (fun n' σ' hn hat hf => ?_)
  have hok := pc_ok_do h1.1.2 hB 11 (jk_w a) 0 0 0
  have e1 : ps_do 11 S (jk_w a) 0 0 0 = (jk_set S.1 3 a, hs_pc S.2.1, hs_pH S.2.1 S.2.2 S.1) := by
    rw [ha]; unfold ps_do
    rw [show cl_do 11 S.1 a 0 0 0 = (0, S.1 3, jk_set S.1 3 a) from md_water0 _ ha2, if_pos rfl]
  have e2 : ps_v 11 S (jk_w a) 0 0 0 = S.1 3 := by
    rw [ha]; unfold ps_v
    rw [show cl_do 11 S.1 a 0 0 0 = (0, S.1 3, jk_set S.1 3 a) from md_water0 _ ha2, if_pos rfl]
  rw [e1] at hat hok
  rw [e2]
  obtain ⟨k1, k2⟩ := pX_c h1 hn hat hok (by omega) hB hf
  exact kk n' σ' k1 k2
theorem jr_putT {index a : Nat} {L L0 L1 : List Int} {rest : List Value} (hz : zz_ok G) (hx : zx_ok G) (hv : zv_ok G) (h1 : pX o v K S B sp sv9 (tb L0) e f Lo n t σ ρ) (hs : st_is G t ρ σ a L) (htx : tx_ok L = true) (hL : L ++ L0.drop L.length = L1) (hw : Cond.methodLink (jk_own M) index yL_put ∈ jk_WS) (hdep : Nat.ble 35 (jk_d M) = true) (hlen : Nat.ble rest.length 4 = true) (hmc : 60 ≤ rc) (hms : 360 ≤ rs) (htb : jk_tb M = [])
    (hd : decode (jk_cc M) pc = .ok (.invokestatic index, 3)) (hp : pc + 3 = q) (kk : ∀ σ', pT o v K S B sp sv9 (tb L1) e f Lo ((L.length : Nat) : Int) n t σ' ρ → pF o v n t σ ρ n t σ' ρ → jk_J G M q ls rest n t σ' ρ (rc - 60) (rs - 360) Q X) : jk_J G M pc ls (.ref a :: .ref o :: rest) n t σ ρ rc rs Q X := by
  refine jr_put hz hx hv h1 hs htx hw hdep hlen hmc hms htb hd hp (fun σ' hT hF => ?_)
  rw [bf_tb, hL] at hT
  exact kk σ' hT hF
/-- a rendering -/
theorem pX_wr {w K9 n' : Nat} {t' : jk_T} {σ' : jk_I} {ρ' : jk_P} {L : List Int} (h : pX o v K S B sp sv9 Bf e f Lo n t σ ρ) (hbd : bd_is t' ρ' σ' (o + 578) w K9 L) (hf : ln_wf o v n t σ ρ w n' t' σ' ρ') : pX o w K9 S B sp sv9 Bf e f L n' t' σ' ρ' ∧ pF o v n t σ ρ n' t' σ' ρ' := by
  obtain ⟨⟨⟨a1, a2, a3, a4⟩, b⟩, ⟨c1, c2, c3, c4⟩, ⟨d1, d2⟩, e0, ⟨f1, f2, f3, f4⟩, g0, i0, j0, k0⟩ := h
  obtain ⟨w1, w2, w3, w4, w5, w6⟩ := hf
  have hs : ∀ a, o ≤ a → (a < o + 512 ∨ o + 546 ≤ a) → a < o + 578 → σ' a = σ a := fun a h1 h2 h3 => w6 a (by omega) h2 (by omega) (by omega)
  refine ⟨⟨⟨⟨ln_at_bd (σ := σ) (σ' := σ) (v := v) (w := w) (n' := n') ⟨w1, w2, w3, w4, w5, fun _ _ _ _ => rfl⟩ c2 a1, cl_rel_same (st_2 b.1) (fun a h1 h2 => hs a (by omega) (by omega) (by omega)) a2, cl_nn_same (fun q hq => hs _ (by omega) (by omega) (by omega)) a3, hs_rel_fr a4 (fun j hj => st_2 (b.2.2 j hj)) (fun a h1 h2 => hs a (by omega) (by omega) (by omega))⟩, b⟩, ⟨c1, by omega, by omega, w2⟩, ⟨cl_nn_same (fun q hq => hs _ (by omega) (by omega) (by omega)) d1, cl_nn_same (fun q hq => hs _ (by omega) (by omega) (by omega)) d2⟩, hbd, ⟨?_, ?_, ?_, ?_⟩, fun h => ⟨cl_rel_same (st_2 (g0 h).2) (fun a h1 h2 => hs a (by omega) (by omega) (by omega)) (g0 h).1, (g0 h).2⟩, ?_, fun i hi => ?_, k0⟩, w3, w4, fun a ha h => w5 a ha (by omega), fun a ha h h9 => w6 a ha (by omega) (by omega) h9⟩
  · rw [hs o (by omega) (by omega) (by omega)]; exact f1
  · rw [hs o (by omega) (by omega) (by omega)]; exact f2
  · rw [hs o (by omega) (by omega) (by omega)]; exact f3
  · rw [hs (o + 550) (by omega) (by omega) (by omega)]; exact f4
  · rw [hs (o + 552) (by omega) (by omega) (by omega)]; exact i0
  · rw [hs _ (by omega) (by omega) (by omega)]; exact j0 i hi
theorem jr_renderLine {index : Nat} {rest : List Value} {p : Int} {L : List Int} (hz : zz_ok G) (hx : zx_ok G) (hzp : zp_ok G) (h1 : pX o v K S B sp sv9 Bf e f Lo n t σ ρ) (hp9 : jk_in p) (hc : cl_has (S.1 1) p = true) (hL : md_rnl S.1 p = L) (hw : Cond.methodLink (jk_own M) index yX12_renderLine ∈ jk_WS) (hdep : Nat.ble (jk_d mX12_renderLine + 1) (jk_d M) = true) (hlen : Nat.ble rest.length 4 = true) (hmc : 12 ≤ rc) (hms : 400 ≤ rs) (htb : jk_tb M = [])
    (hd : decode (jk_cc M) pc = .ok (.invokevirtual index, 3)) (hp : pc + 3 = q) (kk : ∀ w K9 n' t' σ' ρ', (w = v ∨ n ≤ w) → n ≤ n' → pX o w K9 S B sp sv9 Bf e f L n' t' σ' ρ' → pF o v n t σ ρ n' t' σ' ρ' → jk_J G M q ls (jI ((L.length : Nat) : Int) :: rest) n' t' σ' ρ' (rc - 12) (rs - 400) Q X) : jk_J G M pc ls (jI p :: .ref o :: rest) n t σ ρ rc rs Q X := by
  subst hL
  refine jk_callV (q := q) (k := 12) (As := [jI p]) (c_X12_renderLine hz hx h1.1.1.1 h1.1.1.2.1 h1.1.2.1.1 h1.1.1.2.2.1 h1.1.2.1.2 hzp h1.2.2.2.1 h1.2.1.2.1 h1.2.1.2.2.1 h1.2.1.2.2.2 hp9) jm_X12_renderLine hw rfl h1.1.1.1.1 rfl (Nat.le_of_ble_eq_true hdep) (Nat.le_of_ble_eq_true hlen) hmc hms (fun x hx => by rw [htb] at hx; cases hx) hd hp (fun v' n' t' σ' ρ' hq => ?_) (fun E n' t' σ' ρ' hx9 => by
    have := hx9.1
    rw [hc] at this; exact absurd this (by decide))
  obtain ⟨-, rfl, w, K9, h3, h4⟩ := hq
  obtain ⟨k1, k2⟩ := pX_wr h1 h3 h4
  exact kk w K9 n' t' σ' ρ' h4.1 h4.2.2.1 k1 k2
theorem jr_renderBenchmark {index : Nat} {rest : List Value} {p : Int} {L : List Int} (hz : zz_ok G) (hx : zx_ok G) (hzp : zp_ok G) (h1 : pX o v K S B sp sv9 Bf e f Lo n t σ ρ) (hp9 : jk_in p) (hc : cl_has (S.1 0) p = true) (hL : md_rnb S.1 p = L) (hw : Cond.methodLink (jk_own M) index yX12_renderBenchmark ∈ jk_WS) (hdep : Nat.ble (jk_d mX12_renderBenchmark + 1) (jk_d M) = true) (hlen : Nat.ble rest.length 4 = true) (hmc : 7 ≤ rc) (hms : 200 ≤ rs) (htb : jk_tb M = [])
    (hd : decode (jk_cc M) pc = .ok (.invokevirtual index, 3)) (hp : pc + 3 = q) (kk : ∀ w K9 n' t' σ' ρ', (w = v ∨ n ≤ w) → n ≤ n' → pX o w K9 S B sp sv9 Bf e f L n' t' σ' ρ' → pF o v n t σ ρ n' t' σ' ρ' → jk_J G M q ls (jI ((L.length : Nat) : Int) :: rest) n' t' σ' ρ' (rc - 7) (rs - 200) Q X) : jk_J G M pc ls (jI p :: .ref o :: rest) n t σ ρ rc rs Q X := by
  subst hL
  refine jk_callV (q := q) (k := 12) (As := [jI p]) (c_X12_renderBenchmark hz hx h1.1.1.1 h1.1.1.2.1 h1.1.2.1.1 h1.1.1.2.2.1 h1.1.2.1.2 hzp h1.2.2.2.1 h1.2.1.2.1 h1.2.1.2.2.1 h1.2.1.2.2.2 hp9) jm_X12_renderBenchmark hw rfl h1.1.1.1.1 rfl (Nat.le_of_ble_eq_true hdep) (Nat.le_of_ble_eq_true hlen) hmc hms (fun x hx => by rw [htb] at hx; cases hx) hd hp (fun v' n' t' σ' ρ' hq => ?_) (fun E n' t' σ' ρ' hx9 => by
    have := hx9.1
    rw [hc] at this; exact absurd this (by decide))
  obtain ⟨-, rfl, w, K9, h3, h4⟩ := hq
  obtain ⟨k1, k2⟩ := pX_wr h1 h3 h4
  exact kk w K9 n' t' σ' ρ' h4.1 h4.2.2.1 k1 k2
theorem jr_isLine {index a : Nat} {L : List Int} {rest : List Value} (hz : zz_ok G) (hx : zx_ok G) (hv : zv_ok G) (h1 : pX o v K S B sp sv9 Bf e f L n t σ ρ) (hs : ∀ σ2, ln_fr o σ σ2 → st_is G t ρ σ2 a L) (hw : Cond.methodLink (jk_own M) index yL_isLine ∈ jk_WS) (hdep : Nat.ble (jk_d mL_isLine + 1) (jk_d M) = true) (hlen : Nat.ble rest.length 4 = true) (hmc : 40 ≤ rc) (hms : 240 ≤ rs) (htb : jk_tb M = [])
    (hd : decode (jk_cc M) pc = .ok (.invokestatic index, 3)) (hp : pc + 3 = q) (kk : ∀ σ', pX o v K S B sp sv9 Bf e f L n t σ' ρ → pF o v n t σ ρ n t σ' ρ → jk_J G M q ls (jI 1 :: rest) n t σ' ρ (rc - 40) (rs - 240) Q X) : jk_J G M pc ls (.ref a :: jI ((L.length : Nat) : Int) :: .ref o :: rest) n t σ ρ rc rs Q X := by
  refine jk_cS3g (q := q) (c_isLine hz hx hv h1.1.1 h1.1.2 h1.2.2.2.1 h1.2.1.2.2.1 hs) jm_L_isLine hw hdep hlen hmc hms htb hd hp (fun v' n' t' σ' ρ' hq => ?_) (fun _ _ _ _ _ h => h.elim)
  obtain ⟨-, rfl, rfl, rfl, rfl, hf⟩ := hq
  obtain ⟨k1, k2⟩ := pX_q h1 (Nat.le_refl _) hf
  exact kk σ' k1 k2
end PMJ
/-! how many points build makes -/
def bR (N m : Int) (S : ps_S) : Prop := pc_ok N S ∧ S.1 0 ≤ m
theorem bR_up {N N2 m : Int} {S : ps_S} (h : bR N m S) (h1 : N ≤ N2) (h2 : N2 ≤ 1100000) : bR N2 m S := ⟨pc_ok_up h.1 h1 h2, h.2⟩
theorem bR_do {N m : Int} {S : ps_S} (h : bR N m S) (hN : N + 85 ≤ 1100000) (k : Nat) (a b v d : Int) : bR (N + 85) (m + (if k = 0 then 1 else 0)) (ps_do k S a b v d) := by
  refine ⟨pc_ok_do h.1 hN k a b v d, ?_⟩
  have hi := h.1.1.1.1
  have h0 := h.2
  have h9 := cl_g0 k S.1 a b v d hi.1 hi.2.1 hi.2.2.1 (fun q hq => (hi.2.2.2.2.2.2.2.1 q hq).1)
  unfold ps_do
  split
  · show (cl_do k S.1 a b v d).2.2 0 ≤ _; omega
  · split <;> omega
theorem bR_d {N m : Int} {S : ps_S} (h : bR N m S) (hN : N + 85 ≤ 1100000) {k : Nat} (hk : k ≠ 0) (a b v d : Int) : bR (N + 85) m (ps_do k S a b v d) := by
  have := bR_do h hN k a b v d
  rw [if_neg hk, Int.add_zero] at this
  exact this
theorem bR_a {S : ps_S} (h : bR 0 0 S) : ∀ k : Nat, k ≤ 100 → bR (85 * (k : Int)) (k : Int) (bz_a S k)
  | 0, _ => h
  | k + 1, hk => by
    have := bR_do (bR_a h k (by omega)) (by omega) 0 0 0 0 0
    rw [if_pos rfl] at this
    rw [show (85 : Int) * ((k + 1 : Nat) : Int) = 85 * (k : Int) + 85 by push_cast; omega, show ((k + 1 : Nat) : Int) = (k : Int) + 1 by push_cast; rfl]
    exact this
theorem bR_if {N m : Int} {S : ps_S} {p : Prop} [Decidable p] {k : Nat} {a b v d : Int} (h : bR N m S) (hN : N + 85 ≤ 1100000) (hk : k ≠ 0) : bR (N + 85) m (if p then ps_do k S a b v d else S) := by
  split
  · exact bR_d h hN hk a b v d
  · exact bR_up h (by omega) hN
theorem bR_f {N m z pts : Int} {S : ps_S} (h : bR N m S) (hN : N + 200 ≤ 1100000) : ∀ k : Nat, k ≤ 2 → bR (N + 85 * (k : Int)) m (bz_f z pts S k)
  | 0, _ => bR_up h (by omega) (by omega)
  | k + 1, hk => by
    rw [show N + (85 : Int) * ((k + 1 : Nat) : Int) = N + 85 * (k : Int) + 85 by push_cast; omega]
    exact bR_if (bR_f h hN k (by omega)) (by omega) (by decide)
theorem bR_s {N m z : Int} {S : ps_S} (h : bR N m S) (hN : N + 400 ≤ 1100000) : ∀ k : Nat, k ≤ 4 → bR (N + 85 * (k : Int)) m (bz_s z S k)
  | 0, _ => bR_up h (by omega) (by omega)
  | k + 1, hk => by
    rw [show N + (85 : Int) * ((k + 1 : Nat) : Int) = N + 85 * (k : Int) + 85 by push_cast; omega]
    exact bR_d (bR_s h hN k (by omega)) (by omega) (by decide) _ _ _ _
theorem bR_it {N m pts c : Int} {S : ps_S} (h : bR N m S) (hN : N + 850 ≤ 1100000) : bR (N + 850) m (bz_it pts c S) := by
  have h0 : bR (N + 85) m (bz_0 pts c S) := bR_d h (by omega) (by decide) _ _ _ _
  have h1 : bR (N + 85 + 85) m _ := bR_if (p := jk_and (jk_sr c 14) 3 = 0) (k := 4) (a := jk_w ((bz_0 pts c S).1 1 - 1)) (b := jk_w (-bz_rise pts c + jk_and (jk_sr c 16) 15 - 8)) (v := 0) (d := 0) h0 (by omega) (by decide)
  have h2 : bR (N + 85 + 85 + 85) m (bz_2 (bz_ls (bz_0 pts c S)) c (bz_1 pts c (bz_0 pts c S))) := bR_if h1 (by omega) (by decide)
  have h3 : bR (N + 85 + 85 + 85 + 85) m (bz_3 (bz_ls (bz_0 pts c S)) c (bz_2 (bz_ls (bz_0 pts c S)) c (bz_1 pts c (bz_0 pts c S)))) := bR_if h2 (by omega) (by decide)
  generalize hS3 : bz_3 (bz_ls (bz_0 pts c S)) c (bz_2 (bz_ls (bz_0 pts c S)) c (bz_1 pts c (bz_0 pts c S))) = S3 at h3
  have h4 : bR (N + 85 + 85 + 85 + 85 + 85) m (bz_4 c S3) := by
    unfold bz_4
    split
    · split
      · exact bR_up h3 (by omega) (by omega)
      · exact bR_d h3 (by omega) (by decide) _ _ _ _
    · exact bR_up h3 (by omega) (by omega)
  have h5 : bR (N + 85 + 85 + 85 + 85 + 85 + 85) m (bz_5 c (bz_4 c S3)) := bR_if h4 (by omega) (by decide)
  have h6 : bR (N + 85 + 85 + 85 + 85 + 85 + 85 + 85) m (bz_6 pts c (bz_5 c (bz_4 c S3))) := bR_if h5 (by omega) (by decide)
  have h7 : bR (N + 85 + 85 + 85 + 85 + 85 + 85 + 85 + 85) m (bz_7 c (bz_6 pts c (bz_5 c (bz_4 c S3)))) := bR_if h6 (by omega) (by decide)
  have h8 : bR (N + 85 + 85 + 85 + 85 + 85 + 85 + 85 + 85 + 85) m (bz_8 pts c (bz_7 c (bz_6 pts c (bz_5 c (bz_4 c S3))))) := bR_if h7 (by omega) (by decide)
  have h9 : bR (N + 85 + 85 + 85 + 85 + 85 + 85 + 85 + 85 + 85 + 85) m (bz_9 pts c (bz_8 pts c (bz_7 c (bz_6 pts c (bz_5 c (bz_4 c S3)))))) := bR_if h8 (by omega) (by decide)
  unfold bz_it
  rw [hS3]
  exact bR_up h9 (by omega) (by omega)
theorem bR_l {N m pts : Int} {f : Int → Int} {S : ps_S} (h : bR N m S) (hN : N + 10300 ≤ 1100000) : ∀ k : Nat, k ≤ 12 → bR (N + 850 * (k : Int)) m (bz_l f pts S k)
  | 0, _ => bR_up h (by omega) (by omega)
  | k + 1, hk => by
    rw [show N + (850 : Int) * ((k + 1 : Nat) : Int) = N + 850 * (k : Int) + 850 by push_cast; omega]
    exact bR_it (bR_l h hN k (by omega)) (by omega)
theorem bz_g0 (f : Int → Int) : (bz f).1 0 ≤ 7 := by
  have h3 := jk_and3 (f 0)
  have hp : 4 ≤ bz_pts f ∧ bz_pts f ≤ 7 := by unfold bz_pts; omega
  have h0 : bR 0 0 bz_S0 := ⟨⟨st_new, by decide, fun j hj => absurd hj (Nat.not_lt_zero j)⟩, by decide⟩
  have ha := bR_up (N2 := 600) (bR_a h0 (bz_pts f).toNat (by omega)) (by omega) (by decide)
  have hf := bR_up (N2 := 800) (bR_f (z := f 0) (pts := bz_pts f) ha (by decide) 2 (by decide)) (by decide) (by decide)
  have hq : bR (800 + 85) _ (bz_p (f 0) (bz_pts f) _) := bR_d hf (by decide) (by decide) _ _ _ _
  have hs := bR_up (N2 := 1300) (bR_s (z := f 0) hq (by decide) 4 (by decide)) (by decide) (by decide)
  have hl := (bR_l (f := f) (pts := bz_pts f) hs (by decide) 12 (by decide)).2
  have hl2 : (bz f).1 0 ≤ ((bz_pts f).toNat : Int) := hl
  omega
def Z1 (a : Int) : List (Int × Int) := [(0, 3), (1, 2), (4, 1), (14, 1000), (24, 0), (25, 1), (40, 1), (41, 2), (56, 4), (57, 4), (72, 100 + a), (73, 50)]
def Z2 (a : Int) : List (Int × Int) := [(0, 3), (1, 3), (4, 1), (14, 1000), (24, 0), (25, 1), (40, 1), (41, 2), (56, 4), (57, 4), (72, 100 + a), (73, 50), (26, 2), (42, 0), (58, 8), (74, -(147 + a)), (2, 1), (152, 1), (156, 2), (160, 0), (200, 0), (161, 10), (201, -100)]
def Z3 (a : Int) : List (Int × Int) := (3, 1055 + a) :: Z2 a
def Z4 (a : Int) : List (Int × Int) := (136, -1) :: (137, -1) :: (138, -1) :: Z3 a
def Z6 (a : Int) : List (Int × Int) := (6, 1) :: (16, 1200) :: Z4 a
def Z7 (a : Int) : List (Int × Int) := (6, 0) :: Z6 a
def Z8 (a : Int) : List (Int × Int) := (88, 1) :: (104, -93 - a) :: Z7 a
def Z9 (a : Int) : List (Int × Int) := (122, 1) :: Z8 a
def Z10 (a : Int) : List (Int × Int) := (122, 0) :: Z9 a
def zq_280 : List Int := [112, 111, 105, 110, 116, 59, 112, 111, 105, 110, 116, 59, 112, 111, 105, 110, 116, 59, 102, 105, 120, 32, 48, 32, 49, 48, 48, 48, 59, 108, 105, 110, 101, 32, 48, 49, 32]
def zq_289 : List Int := [47, 52, 59, 108, 105, 110, 101, 32, 49, 50, 32, 53, 48, 47, 52]
def zq_295 : List Int := [108, 105, 110, 101, 32, 50, 48, 32, 45]
def zq_297 : List Int := [47, 56, 59, 112, 114, 111, 102, 105, 108, 101, 32, 49, 59, 115, 116, 97, 116, 105, 111, 110, 32, 48, 32, 48, 58, 48, 59, 115, 116, 97, 116, 105, 111, 110, 32, 48, 32, 49, 48, 58, 45, 49, 48, 48]
def zq_308 : List Int := [50, 58, 50, 62, 48, 32, 45]
def zq_310 : List Int := [47, 56, 111]
def zq_319 : List Int := [48, 61, 49, 48, 48, 48, 33]
def zt1 (a : Int) : List Int := (([] ++ zq_280) ++ md_dgs (100 + a)) ++ zq_289
def zt2 (a : Int) : List Int := (([] ++ zq_295) ++ md_dgs (147 + a)) ++ zq_297
def zt3 (a : Int) : List Int := (([] ++ zq_308) ++ md_dgs (147 + a)) ++ zq_310
def zb1 (a : Int) : List Int := zt1 a ++ ([] : List Int).drop (zt1 a).length
def zb2 (a : Int) : List Int := zt2 a ++ (zb1 a).drop (zt2 a).length
def z0g : Int → Int := fun _ => 0
section PMF
variable {a : Int}
theorem zk_1 (ha : 0 ≤ a ∧ a ≤ 7) : tx_ok (zt1 a) = true := a8b (F := fun a => tx_ok (zt1 a)) ha (by decide +kernel)
theorem zw_1 (ha : 0 ≤ a ∧ a ≤ 7) : md_w2 (tb (zb1 a)) (((zt1 a).length : Nat) : Int) zP0 = false := of_decide_eq_true (a8b (F := fun a => decide (md_w2 (tb (zb1 a)) (((zt1 a).length : Nat) : Int) zP0 = false)) ha (by decide +kernel))
theorem zn_1 (ha : 0 ≤ a ∧ a ≤ 7) : md_cn (tb (zb1 a)) (((zt1 a).length : Nat) : Int) zP0 = 6 := of_decide_eq_true (a8b (F := fun a => decide (md_cn (tb (zb1 a)) (((zt1 a).length : Nat) : Int) zP0 = 6)) ha (by decide +kernel))
theorem zf_1 (ha : 0 ≤ a ∧ a ≤ 7) : md_ff (tb (zb1 a)) (((zt1 a).length : Nat) : Int) zP0 z0g = -1 := of_decide_eq_true (a8b (F := fun a => decide (md_ff (tb (zb1 a)) (((zt1 a).length : Nat) : Int) zP0 z0g = -1)) ha (by decide +kernel))
theorem zg_1 (ha : 0 ≤ a ∧ a ≤ 7) : gk_eq (md_x (tb (zb1 a)) (((zt1 a).length : Nat) : Int) zP0).2 z0g 6 (Z1 a) = true := a8b (F := fun a => gk_eq (md_x (tb (zb1 a)) (((zt1 a).length : Nat) : Int) zP0).2 z0g 6 (Z1 a)) ha (by decide +kernel)
theorem zk_2 (ha : 0 ≤ a ∧ a ≤ 7) : tx_ok (zt2 a) = true := a8b (F := fun a => tx_ok (zt2 a)) ha (by decide +kernel)
theorem zw_2 (ha : 0 ≤ a ∧ a ≤ 7) : md_w2 (tb (zb2 a)) (((zt2 a).length : Nat) : Int) zP0 = false := of_decide_eq_true (a8b (F := fun a => decide (md_w2 (tb (zb2 a)) (((zt2 a).length : Nat) : Int) zP0 = false)) ha (by decide +kernel))
theorem zn_2 (ha : 0 ≤ a ∧ a ≤ 7) : md_cn (tb (zb2 a)) (((zt2 a).length : Nat) : Int) zP0 = 4 := of_decide_eq_true (a8b (F := fun a => decide (md_cn (tb (zb2 a)) (((zt2 a).length : Nat) : Int) zP0 = 4)) ha (by decide +kernel))
theorem zf_2 (ha : 0 ≤ a ∧ a ≤ 7) : md_ff (tb (zb2 a)) (((zt2 a).length : Nat) : Int) zP0 (zs (Z1 a)) = -1 := of_decide_eq_true (a8b (F := fun a => decide (md_ff (tb (zb2 a)) (((zt2 a).length : Nat) : Int) zP0 (zs (Z1 a)) = -1)) ha (by decide +kernel))
theorem zg_2 (ha : 0 ≤ a ∧ a ≤ 7) : gk_eq (md_x (tb (zb2 a)) (((zt2 a).length : Nat) : Int) zP0).2 (zs (Z1 a)) 4 (Z2 a) = true := a8b (F := fun a => gk_eq (md_x (tb (zb2 a)) (((zt2 a).length : Nat) : Int) zP0).2 (zs (Z1 a)) 4 (Z2 a)) ha (by decide +kernel)
theorem zl_1 (ha : 0 ≤ a ∧ a ≤ 7) : (zt1 a).length ≤ 100 ∧ ([] ++ zq_280 : List Int).length + (md_dgs (100 + a)).length ≤ 100 ∧ (([] ++ zq_280) ++ md_dgs (100 + a)).length + zq_289.length ≤ 100 := of_decide_eq_true (a8b (F := fun a => decide ((zt1 a).length ≤ 100 ∧ ([] ++ zq_280 : List Int).length + (md_dgs (100 + a)).length ≤ 100 ∧ (([] ++ zq_280) ++ md_dgs (100 + a)).length + zq_289.length ≤ 100)) ha (by decide +kernel))
theorem zl_2 (ha : 0 ≤ a ∧ a ≤ 7) : (zt2 a).length ≤ 100 ∧ ([] ++ zq_295 : List Int).length + (md_dgs (147 + a)).length ≤ 100 ∧ (([] ++ zq_295) ++ md_dgs (147 + a)).length + zq_297.length ≤ 100 := of_decide_eq_true (a8b (F := fun a => decide ((zt2 a).length ≤ 100 ∧ ([] ++ zq_295 : List Int).length + (md_dgs (147 + a)).length ≤ 100 ∧ (([] ++ zq_295) ++ md_dgs (147 + a)).length + zq_297.length ≤ 100)) ha (by decide +kernel))
theorem zl_3 (ha : 0 ≤ a ∧ a ≤ 7) : (zt3 a).length ≤ 100 ∧ ([] ++ zq_308 : List Int).length + (md_dgs (147 + a)).length ≤ 100 ∧ (([] ++ zq_308) ++ md_dgs (147 + a)).length + zq_310.length ≤ 100 := of_decide_eq_true (a8b (F := fun a => decide ((zt3 a).length ≤ 100 ∧ ([] ++ zq_308 : List Int).length + (md_dgs (147 + a)).length ≤ 100 ∧ (([] ++ zq_308) ++ md_dgs (147 + a)).length + zq_310.length ≤ 100)) ha (by decide +kernel))
theorem f0_tc (ha : 0 ≤ a ∧ a ≤ 7) : (md_q_tc z0g ).2 = 0 := of_decide_eq_true (a8b (F := fun a => decide ((md_q_tc z0g ).2 = 0)) ha (by decide +kernel))
theorem f0_fl (ha : 0 ≤ a ∧ a ≤ 7) : (md_q_fl z0g ).2 = 0 := of_decide_eq_true (a8b (F := fun a => decide ((md_q_fl z0g ).2 = 0)) ha (by decide +kernel))
theorem f0_t4 (ha : 0 ≤ a ∧ a ≤ 7) : md_q_to z0g 4 = (0, 6) := of_decide_eq_true (a8b (F := fun a => decide (md_q_to z0g 4 = (0, 6))) ha (by decide +kernel))
theorem f0_t0 (ha : 0 ≤ a ∧ a ≤ 7) : md_q_to z0g 0 = (0, 0) := of_decide_eq_true (a8b (F := fun a => decide (md_q_to z0g 0 = (0, 0))) ha (by decide +kernel))
theorem f0_sn (ha : 0 ≤ a ∧ a ≤ 7) : (cl_do 7 z0g (jk_w 0) 0 0 0).1 ≠ 0 := of_decide_eq_true (a8b (F := fun a => decide ((cl_do 7 z0g (jk_w 0) 0 0 0).1 ≠ 0)) ha (by decide +kernel))
theorem f0_sv (ha : 0 ≤ a ∧ a ≤ 7) : ac_c (ex_t (cl_tc 7 (cl_do 7 z0g (jk_w 0) 0 0 0).1)) = -200001 := of_decide_eq_true (a8b (F := fun a => decide (ac_c (ex_t (cl_tc 7 (cl_do 7 z0g (jk_w 0) 0 0 0).1)) = -200001)) ha (by decide +kernel))
theorem f0_h (ha : 0 ≤ a ∧ a ≤ 7) : qa_ht z0g 0 = -200001 := of_decide_eq_true (a8b (F := fun a => decide (qa_ht z0g 0 = -200001)) ha (by decide +kernel))
theorem f1_lo (ha : 0 ≤ a ∧ a ≤ 7) : (md_q_lo (zs (Z1 a)) ).2 = 0 := of_decide_eq_true (a8b (F := fun a => decide ((md_q_lo (zs (Z1 a)) ).2 = 0)) ha (by decide +kernel))
theorem f1_h2 (ha : 0 ≤ a ∧ a ≤ 7) : md_q_ht (zs (Z1 a)) 2 = (0, 1150 + a) := of_decide_eq_true (a8b (F := fun a => decide (md_q_ht (zs (Z1 a)) 2 = (0, 1150 + a))) ha (by decide +kernel))
theorem f1_mc (ha : 0 ≤ a ∧ a ≤ 7) : qa_mc (zs (Z1 a)) 1 = -200005 := of_decide_eq_true (a8b (F := fun a => decide (qa_mc (zs (Z1 a)) 1 = -200005)) ha (by decide +kernel))
theorem f1_sn (ha : 0 ≤ a ∧ a ≤ 7) : (cl_do 7 (zs (Z1 a)) (jk_w 1) 0 0 0).1 ≠ 0 := of_decide_eq_true (a8b (F := fun a => decide ((cl_do 7 (zs (Z1 a)) (jk_w 1) 0 0 0).1 ≠ 0)) ha (by decide +kernel))
theorem f1_sv (ha : 0 ≤ a ∧ a ≤ 7) : ac_c (ex_t (cl_tc 7 (cl_do 7 (zs (Z1 a)) (jk_w 1) 0 0 0).1)) = -200005 := of_decide_eq_true (a8b (F := fun a => decide (ac_c (ex_t (cl_tc 7 (cl_do 7 (zs (Z1 a)) (jk_w 1) 0 0 0).1)) = -200005)) ha (by decide +kernel))
theorem f2_fl (ha : 0 ≤ a ∧ a ≤ 7) : (md_q_fl (zs (Z2 a)) ).2 = 8 := of_decide_eq_true (a8b (F := fun a => decide ((md_q_fl (zs (Z2 a)) ).2 = 8)) ha (by decide +kernel))
theorem f2_tc (ha : 0 ≤ a ∧ a ≤ 7) : (md_q_tc (zs (Z2 a)) ).2 = 1 := of_decide_eq_true (a8b (F := fun a => decide ((md_q_tc (zs (Z2 a)) ).2 = 1)) ha (by decide +kernel))
theorem f2_la (ha : 0 ≤ a ∧ a ≤ 7) : md_q_la (zs (Z2 a)) 0 = (0, 2) := of_decide_eq_true (a8b (F := fun a => decide (md_q_la (zs (Z2 a)) 0 = (0, 2))) ha (by decide +kernel))
theorem f2_ls (ha : 0 ≤ a ∧ a ≤ 7) : md_q_ls (zs (Z2 a)) 2 = (0, 3) := of_decide_eq_true (a8b (F := fun a => decide (md_q_ls (zs (Z2 a)) 2 = (0, 3))) ha (by decide +kernel))
theorem f2_ll (ha : 0 ≤ a ∧ a ≤ 7) : md_q_ll (zs (Z2 a)) 2 = (0, 16) := of_decide_eq_true (a8b (F := fun a => decide (md_q_ll (zs (Z2 a)) 2 = (0, 16))) ha (by decide +kernel))
theorem f2_mc (ha : 0 ≤ a ∧ a ≤ 7) : md_q_mc (zs (Z2 a)) 2 = (0, 3) := of_decide_eq_true (a8b (F := fun a => decide (md_q_mc (zs (Z2 a)) 2 = (0, 3))) ha (by decide +kernel))
theorem f2_p0 (ha : 0 ≤ a ∧ a ≤ 7) : md_q_pt (zs (Z2 a)) 2 0 = (0, 1) := of_decide_eq_true (a8b (F := fun a => decide (md_q_pt (zs (Z2 a)) 2 0 = (0, 1))) ha (by decide +kernel))
theorem f2_p1 (ha : 0 ≤ a ∧ a ≤ 7) : md_q_pt (zs (Z2 a)) 2 1 = (0, 1) := of_decide_eq_true (a8b (F := fun a => decide (md_q_pt (zs (Z2 a)) 2 1 = (0, 1))) ha (by decide +kernel))
theorem f2_p2 (ha : 0 ≤ a ∧ a ≤ 7) : md_q_pt (zs (Z2 a)) 2 2 = (0, 1) := of_decide_eq_true (a8b (F := fun a => decide (md_q_pt (zs (Z2 a)) 2 2 = (0, 1))) ha (by decide +kernel))
theorem f2_da (ha : 0 ≤ a ∧ a ≤ 7) : md_q_da (zs (Z2 a)) 2 = (0, 0) := of_decide_eq_true (a8b (F := fun a => decide (md_q_da (zs (Z2 a)) 2 = (0, 0))) ha (by decide +kernel))
theorem f2_b0 (ha : 0 ≤ a ∧ a ≤ 7) : md_q_bh (zs (Z2 a)) 0 = (0, 2) := of_decide_eq_true (a8b (F := fun a => decide (md_q_bh (zs (Z2 a)) 0 = (0, 2))) ha (by decide +kernel))
theorem f2_b2 (ha : 0 ≤ a ∧ a ≤ 7) : md_q_bh (zs (Z2 a)) 2 = (0, 0) := of_decide_eq_true (a8b (F := fun a => decide (md_q_bh (zs (Z2 a)) 2 = (0, 0))) ha (by decide +kernel))
theorem f2_g5 (ha : 0 ≤ a ∧ a ≤ 7) : md_q_gr (zs (Z2 a)) 0 5 = (0, 1050 + a) := of_decide_eq_true (a8b (F := fun a => decide (md_q_gr (zs (Z2 a)) 0 5 = (0, 1050 + a))) ha (by decide +kernel))
theorem f2_g0 (ha : 0 ≤ a ∧ a ≤ 7) : md_q_gr (zs (Z2 a)) 0 0 = (0, 1100 + a) := of_decide_eq_true (a8b (F := fun a => decide (md_q_gr (zs (Z2 a)) 0 0 = (0, 1100 + a))) ha (by decide +kernel))
theorem f2_gx (ha : 0 ≤ a ∧ a ≤ 7) : qa_gr (zs (Z2 a)) 0 11 = -200002 := of_decide_eq_true (a8b (F := fun a => decide (qa_gr (zs (Z2 a)) 0 11 = -200002)) ha (by decide +kernel))
theorem c2_w (ha : 0 ≤ a ∧ a ≤ 7) : cl_eq 11 (zs (Z2 a)) (1055 + a) 0 0 0 (0) (Z3 a) = true := a8b (F := fun a => cl_eq 11 (zs (Z2 a)) (1055 + a) 0 0 0 (0) (Z3 a)) ha (by decide +kernel)
theorem f3_wc (ha : 0 ≤ a ∧ a ≤ 7) : md_q_wc (zs (Z3 a)) 0 = (0, 6) := of_decide_eq_true (a8b (F := fun a => decide (md_q_wc (zs (Z3 a)) 0 = (0, 6))) ha (by decide +kernel))
theorem f3_sh (ha : 0 ≤ a ∧ a ≤ 7) : md_q_sh (zs (Z3 a)) 0 = (0, 1) := of_decide_eq_true (a8b (F := fun a => decide (md_q_sh (zs (Z3 a)) 0 = (0, 1))) ha (by decide +kernel))
theorem f3_lw (ha : 0 ≤ a ∧ a ≤ 7) : md_q_lw (zs (Z3 a)) 0 = (0, 10) := of_decide_eq_true (a8b (F := fun a => decide (md_q_lw (zs (Z3 a)) 0 = (0, 10))) ha (by decide +kernel))
theorem f3_rl (ha : 0 ≤ a ∧ a ≤ 7) : md_rnl (zs (Z3 a)) 2 = zt3 a := of_decide_eq_true (a8b (F := fun a => decide (md_rnl (zs (Z3 a)) 2 = zt3 a)) ha (by decide +kernel))
theorem f3_rb (ha : 0 ≤ a ∧ a ≤ 7) : md_rnb (zs (Z3 a)) 0 = zq_319 := of_decide_eq_true (a8b (F := fun a => decide (md_rnb (zs (Z3 a)) 0 = zq_319)) ha (by decide +kernel))
theorem f3_c1 (ha : 0 ≤ a ∧ a ≤ 7) : cl_has (zs (Z3 a) 1) 2 = true := of_decide_eq_true (a8b (F := fun a => decide (cl_has (zs (Z3 a) 1) 2 = true)) ha (by decide +kernel))
theorem f3_c0 (ha : 0 ≤ a ∧ a ≤ 7) : cl_has (zs (Z3 a) 0) 0 = true := of_decide_eq_true (a8b (F := fun a => decide (cl_has (zs (Z3 a) 0) 0 = true)) ha (by decide +kernel))
theorem c3_s (ha : 0 ≤ a ∧ a ≤ 7) : cl_eq 7 (zs (Z3 a)) 2 0 0 0 (3) (Z4 a) = true := a8b (F := fun a => cl_eq 7 (zs (Z3 a)) 2 0 0 0 (3) (Z4 a)) ha (by decide +kernel)
theorem f4_mc (ha : 0 ≤ a ∧ a ≤ 7) : md_q_mc (zs (Z4 a)) 2 = (0, 0) := of_decide_eq_true (a8b (F := fun a => decide (md_q_mc (zs (Z4 a)) 2 = (0, 0))) ha (by decide +kernel))
theorem f4_c0 (ha : 0 ≤ a ∧ a ≤ 7) : md_q_correction (zs (Z4 a)) 0 = (0, -1) := of_decide_eq_true (a8b (F := fun a => decide (md_q_correction (zs (Z4 a)) 0 = (0, -1))) ha (by decide +kernel))
theorem f4_c2 (ha : 0 ≤ a ∧ a ≤ 7) : md_q_correction (zs (Z4 a)) 2 = (0, -1) := of_decide_eq_true (a8b (F := fun a => decide (md_q_correction (zs (Z4 a)) 2 = (0, -1))) ha (by decide +kernel))
theorem f4_h2 (ha : 0 ≤ a ∧ a ≤ 7) : md_q_ht (zs (Z4 a)) 2 = (0, 1148 + a) := of_decide_eq_true (a8b (F := fun a => decide (md_q_ht (zs (Z4 a)) 2 = (0, 1148 + a))) ha (by decide +kernel))
theorem f4_l0 (ha : 0 ≤ a ∧ a ≤ 7) : md_q_lv (zs (Z4 a)) 0 = (0, 100 + a) := of_decide_eq_true (a8b (F := fun a => decide (md_q_lv (zs (Z4 a)) 0 = (0, 100 + a))) ha (by decide +kernel))
theorem c4_r (ha : 0 ≤ a ∧ a ≤ 7) : cl_eq 8 (zs (Z4 a)) 0 0 0 0 (3) (Z3 a) = true := a8b (F := fun a => cl_eq 8 (zs (Z4 a)) 0 0 0 0 (3) (Z3 a)) ha (by decide +kernel)
theorem f3_mc (ha : 0 ≤ a ∧ a ≤ 7) : md_q_mc (zs (Z3 a)) 2 = (0, 3) := of_decide_eq_true (a8b (F := fun a => decide (md_q_mc (zs (Z3 a)) 2 = (0, 3))) ha (by decide +kernel))
theorem c4_f (ha : 0 ≤ a ∧ a ≤ 7) : cl_eq 1 (zs (Z4 a)) 2 1200 0 0 (2) (Z6 a) = true := a8b (F := fun a => cl_eq 1 (zs (Z4 a)) 2 1200 0 0 (2) (Z6 a)) ha (by decide +kernel)
theorem f6_c2 (ha : 0 ≤ a ∧ a ≤ 7) : md_q_ce (zs (Z6 a)) 2 = (0, a - 52) := of_decide_eq_true (a8b (F := fun a => decide (md_q_ce (zs (Z6 a)) 2 = (0, a - 52))) ha (by decide +kernel))
theorem f6_c0 (ha : 0 ≤ a ∧ a ≤ 7) : md_q_ce (zs (Z6 a)) 0 = (0, 0) := of_decide_eq_true (a8b (F := fun a => decide (md_q_ce (zs (Z6 a)) 0 = (0, 0))) ha (by decide +kernel))
theorem f6_h2 (ha : 0 ≤ a ∧ a ≤ 7) : md_q_ht (zs (Z6 a)) 2 = (0, 1200) := of_decide_eq_true (a8b (F := fun a => decide (md_q_ht (zs (Z6 a)) 2 = (0, 1200))) ha (by decide +kernel))
theorem f6_h1 (ha : 0 ≤ a ∧ a ≤ 7) : md_q_ht (zs (Z6 a)) 1 = (0, 1099 + a) := of_decide_eq_true (a8b (F := fun a => decide (md_q_ht (zs (Z6 a)) 1 = (0, 1099 + a))) ha (by decide +kernel))
theorem c6_r (ha : 0 ≤ a ∧ a ≤ 7) : cl_eq 2 (zs (Z6 a)) 2 0 0 0 (1200) (Z7 a) = true := a8b (F := fun a => cl_eq 2 (zs (Z6 a)) 2 0 0 0 (1200) (Z7 a)) ha (by decide +kernel)
theorem c7_b (ha : 0 ≤ a ∧ a ≤ 7) : cl_eq 4 (zs (Z7 a)) 0 (-93 - a) 0 0 (7) (Z8 a) = true := a8b (F := fun a => cl_eq 4 (zs (Z7 a)) 0 (-93 - a) 0 0 (7) (Z8 a)) ha (by decide +kernel)
theorem f8_us (ha : 0 ≤ a ∧ a ≤ 7) : md_q_us (zs (Z8 a)) 0 = (0, false) := of_decide_eq_true (a8b (F := fun a => decide (md_q_us (zs (Z8 a)) 0 = (0, false))) ha (by decide +kernel))
theorem f8_di (ha : 0 ≤ a ∧ a ≤ 7) : md_q_di (zs (Z8 a)) 0 = (0, 7) := of_decide_eq_true (a8b (F := fun a => decide (md_q_di (zs (Z8 a)) 0 = (0, 7))) ha (by decide +kernel))
theorem f8_ld (ha : 0 ≤ a ∧ a ≤ 7) : md_q_ld (zs (Z8 a)) 0 = (0, 0) := of_decide_eq_true (a8b (F := fun a => decide (md_q_ld (zs (Z8 a)) 0 = (0, 0))) ha (by decide +kernel))
theorem f8_l0 (ha : 0 ≤ a ∧ a ≤ 7) : md_q_lv (zs (Z8 a)) 0 = (0, (193 + 2 * a) / 2) := of_decide_eq_true (a8b (F := fun a => decide (md_q_lv (zs (Z8 a)) 0 = (0, (193 + 2 * a) / 2))) ha (by decide +kernel))
theorem f8_lo (ha : 0 ≤ a ∧ a ≤ 7) : (md_q_lo (zs (Z8 a)) ).2 = 0 := of_decide_eq_true (a8b (F := fun a => decide ((md_q_lo (zs (Z8 a)) ).2 = 0)) ha (by decide +kernel))
theorem f8_fl (ha : 0 ≤ a ∧ a ≤ 7) : (md_q_fl (zs (Z8 a)) ).2 = 12 := of_decide_eq_true (a8b (F := fun a => decide ((md_q_fl (zs (Z8 a)) ).2 = 12)) ha (by decide +kernel))
theorem f8_tc (ha : 0 ≤ a ∧ a ≤ 7) : (md_q_tc (zs (Z8 a)) ).2 = 1 := of_decide_eq_true (a8b (F := fun a => decide ((md_q_tc (zs (Z8 a)) ).2 = 1)) ha (by decide +kernel))
theorem f8_go (ha : 0 ≤ a ∧ a ≤ 7) : md_goods (zs (Z8 a)) = 2 ∧ zs (Z8 a) 1 = 3 ∧ md_lsum (zs (Z8 a)) = 12 := of_decide_eq_true (a8b (F := fun a => decide (md_goods (zs (Z8 a)) = 2 ∧ zs (Z8 a) 1 = 3 ∧ md_lsum (zs (Z8 a)) = 12)) ha (by decide +kernel))
theorem fp_1 : FP.fdiv (FP.i2f (Int32.ofInt 2)) (FP.i2f (Int32.ofInt 3)) = (1059760811 : UInt32) := by decide +kernel
theorem fp_2 : FP.ddiv (FP.i2d (Int32.ofInt 12)) (FP.i2d (Int32.ofInt 2)) = (4618441417868443648 : UInt64) := by decide +kernel
theorem f8_sr (ha : 0 ≤ a ∧ a ≤ 7) : md_q_sr (zs (Z8 a)) = (0, .float (1059760811 : UInt32)) := by
  unfold md_q_sr
  rw [(f8_go ha).1, (f8_go ha).2.1, if_neg (by decide), fp_1]
theorem f8_ml (ha : 0 ≤ a ∧ a ≤ 7) : md_q_ml (zs (Z8 a)) = (0, .double (4618441417868443648 : UInt64)) := by
  unfold md_q_ml
  rw [(f8_go ha).1, (f8_go ha).2.2, if_neg (by decide), fp_2]
theorem c8_e (ha : 0 ≤ a ∧ a ≤ 7) : cl_eq 5 (zs (Z8 a)) 2 0 0 0 (1) (Z9 a) = true := a8b (F := fun a => cl_eq 5 (zs (Z8 a)) 2 0 0 0 (1) (Z9 a)) ha (by decide +kernel)
theorem f9_tc (ha : 0 ≤ a ∧ a ≤ 7) : (md_q_tc (zs (Z9 a)) ).2 = 2 := of_decide_eq_true (a8b (F := fun a => decide ((md_q_tc (zs (Z9 a)) ).2 = 2)) ha (by decide +kernel))
theorem f9_hh (ha : 0 ≤ a ∧ a ≤ 7) : md_q_hh (zs (Z9 a)) 1 = (0, false) := of_decide_eq_true (a8b (F := fun a => decide (md_q_hh (zs (Z9 a)) 1 = (0, false))) ha (by decide +kernel))
theorem f9_h1 (ha : 0 ≤ a ∧ a ≤ 7) : qa_ht (zs (Z9 a)) 1 = -200005 := of_decide_eq_true (a8b (F := fun a => decide (qa_ht (zs (Z9 a)) 1 = -200005)) ha (by decide +kernel))
theorem f9_wc (ha : 0 ≤ a ∧ a ≤ 7) : qa_wc (zs (Z9 a)) 0 = -200005 := of_decide_eq_true (a8b (F := fun a => decide (qa_wc (zs (Z9 a)) 0 = -200005)) ha (by decide +kernel))
theorem f9_lw (ha : 0 ≤ a ∧ a ≤ 7) : md_q_lw (zs (Z9 a)) 0 = (0, 10) := of_decide_eq_true (a8b (F := fun a => decide (md_q_lw (zs (Z9 a)) 0 = (0, 10))) ha (by decide +kernel))
theorem c9_i (ha : 0 ≤ a ∧ a ≤ 7) : cl_eq 6 (zs (Z9 a)) 2 0 0 0 (2) (Z10 a) = true := a8b (F := fun a => cl_eq 6 (zs (Z9 a)) 2 0 0 0 (2) (Z10 a)) ha (by decide +kernel)
theorem f10_hh (ha : 0 ≤ a ∧ a ≤ 7) : md_q_hh (zs (Z10 a)) 1 = (0, true) := of_decide_eq_true (a8b (F := fun a => decide (md_q_hh (zs (Z10 a)) 1 = (0, true))) ha (by decide +kernel))
end PMF
end PM
