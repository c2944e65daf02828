section PG
theorem cl_at_ex2 {t t' : jk_T} {ρ ρ' : jk_P} {s N : Nat} {lo : Nat} (h : ∀ a, lo ≤ a → a < N → t' a = t a ∧ ρ' a = ρ a) (hlo : lo ≤ s) (hN : s + 44 < N) (hs : cl_at t ρ s) : cl_at t' ρ' s := by
  obtain ⟨h1, h2, h3, h4⟩ := hs
  have hb : ∀ k v, cl_t k = some v → k ≤ 44 := by
    intro k v h
    unfold cl_t at h
    split at h <;> first | omega | cases h
  refine ⟨(h _ (by omega) (by omega)).1.trans h1, fun k v hk => (h _ (by omega) (by have := hb k v hk; omega)).1.trans (h2 k v hk), fun i k hk => by rw [(h s (by omega) (by omega)).2]; exact h3 i k hk, fun q hq => ⟨by rw [(h _ (by omega) (by omega)).2]; exact (h4 q hq).1, by rw [(h _ (by omega) (by omega)).2]; exact (h4 q hq).2⟩⟩
theorem fo_at_ex2 {t t' : jk_T} {ρ ρ' : jk_P} {f s N : Nat} {lo : Nat} (h : ∀ a, lo ≤ a → a < N → t' a = t a ∧ ρ' a = ρ a) (hlo : lo ≤ s) (hN : f + 8 < N) (hs : fo_at t ρ f s) : fo_at t' ρ' f s := by
  obtain ⟨h1, h2, h3, h4, h5, h6⟩ := hs
  have hb : ∀ k v, fo_t k = some v → k ≤ 8 := by
    intro k v h
    unfold fo_t at h
    split at h <;> first | omega | cases h
  refine ⟨(h _ (by omega) (by omega)).1.trans h1, fun k v hk => (h _ (by omega) (by have := hb k v hk; omega)).1.trans (h2 k v hk), fun i k hk => by rw [(h f (by omega) (by omega)).2]; exact h3 i k hk, by rw [(h f (by omega) (by omega)).2]; exact h4, cl_at_ex2 h (by omega) (by omega) h5, h6⟩
theorem wa_at_ex2 {t t' : jk_T} {ρ ρ' : jk_P} {w f s N : Nat} {lo : Nat} (h : ∀ a, lo ≤ a → a < N → t' a = t a ∧ ρ' a = ρ a) (hlo : lo ≤ s) (hN : w + 4 < N) (hs : wa_at t ρ w f s) : wa_at t' ρ' w f s := by
  obtain ⟨⟨a1, a2, a3⟩, ⟨b1, b2, b3, b4⟩, c, d⟩ := hs
  have hc := c.2.2.2.2.2
  have e := (h w (by omega) (by omega)).2
  exact ⟨⟨(h _ (by omega) (by omega)).1.trans a1, (h _ (by omega) (by omega)).1.trans a2, (h _ (by omega) (by omega)).1.trans a3⟩, ⟨by rw [e]; exact b1, by rw [e]; exact b2, by rw [e]; exact b3, by rw [e]; exact b4⟩, fo_at_ex2 h (by omega) (by omega) c, d⟩
theorem he_at_ex2 {t t' : jk_T} {ρ ρ' : jk_P} {w f s N : Nat} {lo : Nat} (h : ∀ a, lo ≤ a → a < N → t' a = t a ∧ ρ' a = ρ a) (hlo : lo ≤ s) (hN : w + 10 < N) (hs : he_at t ρ w f s) : he_at t' ρ' w f s := by
  obtain ⟨⟨a1, a2, a3⟩, ⟨b1, b2, b3, b4, b5⟩, c, d⟩ := hs
  have hc := c.2.2.1.2.2.2.2.2
  have e := (h w (by omega) (by omega)).2
  exact ⟨⟨(h _ (by omega) (by omega)).1.trans a1, (h _ (by omega) (by omega)).1.trans a2, (h _ (by omega) (by omega)).1.trans a3⟩, ⟨by rw [e]; exact b1, by rw [e]; exact b2, by rw [e]; exact b3, by rw [e]; exact b4, by rw [e]; exact b5⟩, wa_at_ex2 h (by omega) (by omega) c, d⟩
theorem sh_at_ex2 {t t' : jk_T} {ρ ρ' : jk_P} {y s N : Nat} {lo : Nat} (h : ∀ a, lo ≤ a → a < N → t' a = t a ∧ ρ' a = ρ a) (hlo : lo ≤ s) (hN : y + 4 < N) (hs : sh_at t ρ y s) : sh_at t' ρ' y s := by
  obtain ⟨⟨a1, a2, a3⟩, ⟨b1, b2, b3⟩, c, d⟩ := hs
  have e := (h y (by omega) (by omega)).2
  exact ⟨⟨(h _ (by omega) (by omega)).1.trans a1, (h _ (by omega) (by omega)).1.trans a2, (h _ (by omega) (by omega)).1.trans a3⟩, ⟨by rw [e]; exact b1, by rw [e]; exact b2, by rw [e]; exact b3⟩, cl_at_ex2 h (by omega) (by omega) c, d⟩
theorem ba_at_ex2 {t t' : jk_T} {ρ ρ' : jk_P} {y s N : Nat} {lo : Nat} (h : ∀ a, lo ≤ a → a < N → t' a = t a ∧ ρ' a = ρ a) (hlo : lo ≤ s) (hN : y < N) (hs : ba_at t ρ y s) : ba_at t' ρ' y s := by
  obtain ⟨⟨a1, b1⟩, c, d⟩ := hs
  exact ⟨⟨(h _ (by omega) (by omega)).1.trans a1, by rw [(h y (by omega) hN).2]; exact b1⟩, cl_at_ex2 h (by omega) (by omega) c, d⟩
theorem hs_at_ex2 {t t' : jk_T} {ρ ρ' : jk_P} {h N : Nat} {lo : Nat} (hx : ∀ a, lo ≤ a → a < N → t' a = t a ∧ ρ' a = ρ a) (hlo : lo ≤ h) (hN : h + 372 ≤ N) (hs : hs_at t ρ h) : hs_at t' ρ' h := by
  obtain ⟨h1, h2, h3, h4⟩ := hs
  refine ⟨(hx _ (by omega) (by omega)).1.trans h1, (hx _ (by omega) (by omega)).1.trans h2, by rw [(hx h (by omega) (by omega)).2]; exact h3, fun j hj => ⟨by rw [(hx _ (by omega) (by omega)).2]; exact (h4 j hj).1, cl_at_ex2 hx (by omega) (by omega) (h4 j hj).2⟩⟩
theorem ch_at_ex2 {t t' : jk_T} {ρ ρ' : jk_P} {c y w f s N : Nat} {lo : Nat} (h : ∀ a, lo ≤ a → a < N → t' a = t a ∧ ρ' a = ρ a) (hlo : lo ≤ s) (hN : c < N) (hs : ch_at t ρ c y w f s) : ch_at t' ρ' c y w f s := by
  obtain ⟨⟨a1, a2, a3, a4, a5⟩, b, d, e, e2⟩ := hs
  have hc := b.2.2.1.2.2.2.2.2
  have hc2 := b.2.2.2
  have h9 := (h c (by omega) (by omega)).2
  exact ⟨⟨(h _ (by omega) (by omega)).1.trans a1, by rw [h9]; exact a2, by rw [h9]; exact a3, by rw [h9]; exact a4, by rw [h9]; exact a5⟩, wa_at_ex2 h (by omega) (by omega) b, sh_at_ex2 h (by omega) (by omega) d, e, e2⟩
theorem sc_at_ex2 {t t' : jk_T} {ρ ρ' : jk_P} {q N : Nat} {lo : Nat} (h : ∀ a, lo ≤ a → a < N → t' a = t a ∧ ρ' a = ρ a) (hlo : lo ≤ q) (hN : q + 26 < N) (hs : sc_at t ρ q) : sc_at t' ρ' q := by
  obtain ⟨⟨a1, a2, a3, a4⟩, ⟨b1, b2, b3⟩, d⟩ := hs
  have e := (h q (by omega) (by omega)).2
  exact ⟨⟨(h _ (by omega) (by omega)).1.trans a1, (h _ (by omega) (by omega)).1.trans a2, (h _ (by omega) (by omega)).1.trans a3, (h _ (by omega) (by omega)).1.trans a4⟩, ⟨by rw [e]; exact b1, by rw [e]; exact b2, by rw [e]; exact b3⟩, fun i hi => ⟨(h _ (by omega) (by omega)).1.trans (d i hi).1, by rw [(h _ (by omega) (by omega)).2]; exact (d i hi).2⟩⟩
theorem ln_at_ex2 {x : Nat} {t t' : jk_T} {ρ ρ' : jk_P} (h : ∀ a, x ≤ a → a < x + 582 → t' a = t a ∧ ρ' a = ρ a) (hl : ln_at t ρ x) : ln_at t' ρ' x := by
  obtain ⟨hx0, ⟨hx1, hx2, hx3, hx4, hx5, hx6, hx7, hx8, hx9, hx10, hx11, hx12⟩, hB4, hSN, hH, hhe, hba, hch, hsc⟩ := hl
  obtain ⟨e0, e⟩ := h x (by omega) (by omega)
  exact ⟨by rw [e0]; exact hx0, ⟨by rw [e]; exact hx1, by rw [e]; exact hx2, by rw [e]; exact hx3, by rw [e]; exact hx4, by rw [e]; exact hx5, by rw [e]; exact hx6, by rw [e]; exact hx7, by rw [e]; exact hx8, by rw [e]; exact hx9, by rw [e]; exact hx10, by rw [e]; exact hx11, by rw [e]; exact hx12⟩, cl_at_ex2 h (by omega) (by omega) hB4, cl_at_ex2 h (by omega) (by omega) hSN, hs_at_ex2 h (by omega) (by omega) hH, he_at_ex2 h (by omega) (by omega) hhe, ba_at_ex2 h (by omega) (by omega) hba, ch_at_ex2 h (by omega) (by omega) hch, sc_at_ex2 h (by omega) (by omega) hsc⟩
/-- A NETWORK at x: its state, the saved one, the text typed, the two positions, the output -/
def pX (x v K : Nat) (S : ps_S) (B sp : Int) (sv9 Bf : Int → Int) (e f : Int) (Lo : List Int) (n : Nat) (t : jk_T) (σ : jk_I) (ρ : jk_P) : Prop :=
  (pc_at x S t σ ρ ∧ pc_ok B S) ∧ (64 ≤ x ∧ x + 582 ≤ n ∧ (v = x + 580 ∨ x + 582 ≤ v) ∧ v < n) ∧ (cl_nn σ (x + 48) ∧ cl_nn σ (x + 94)) ∧ bd_is t ρ σ (x + 578) v K Lo ∧ (σ x 3 = sp ∧ σ x 13 = e ∧ σ x 14 = f ∧ σ (x + 550) 1 = 0) ∧ (sp = 1 → cl_rel σ (x + 94) sv9 ∧ st_ok B sv9) ∧ σ (x + 552) = Bf ∧ (∀ i, i < 10 → cs_bd (σ (x + 550 + (8 + 2 * i)))) ∧ (∀ j, 0 ≤ j ∧ j < 60 → 0 ≤ Bf j ∧ Bf j < 65536) ∧ (-1 ≤ e ∧ e ≤ 100) ∧ -1 ≤ f ∧ f ≤ 100
/-- what a call on the network at x may have changed -/
def pF (x v n : Nat) (t : jk_T) (σ : jk_I) (ρ : jk_P) (n' : Nat) (t' : jk_T) (σ' : jk_I) (ρ' : jk_P) : Prop := n ≤ n' ∧ (∀ a, a < n → t' a = t a) ∧ (∀ a, a < n → (a < x ∨ x + 582 ≤ a) → ρ' a = ρ a) ∧ ∀ a, a < n → (a < x ∨ x + 582 ≤ a) → a ≠ v → σ' a = σ a
/-- two networks lie apart -/
def pA (x v p w : Nat) : Prop := (x + 582 ≤ p ∨ p + 582 ≤ x) ∧ (v < p ∨ p + 582 ≤ v) ∧ (w < x ∨ x + 582 ≤ w) ∧ v ≠ w
section PGX
variable {x v K n n' p w K2 : Nat} {S S2 : ps_S} {B B2 sp sp2 : Int} {sv9 sw9 Bf Bg : Int → Int} {e f e2 f2 : Int} {Lo Lp : List Int} {t t' : jk_T} {σ σ' : jk_I} {ρ ρ' : jk_P}
theorem pX_2 (h : pX x v K S B sp sv9 Bf e f Lo n t σ ρ) : S.1 2 ≤ 4 := st_2 h.1.2.1
theorem bd_is_ext {b : Nat} {L : List Int} (h : bd_is t ρ σ b v K L) (hb : t' b = t b ∧ ρ' b = ρ b ∧ σ' b = σ b) (hv : t' v = t v ∧ σ' v = σ v) : bd_is t' ρ' σ' b v K L := by
  obtain ⟨⟨h1, h2, h3, h4, h5, h6⟩, hK0, h7, h8, h9, h10⟩ := h
  obtain ⟨e1, e2, e3⟩ := hb
  obtain ⟨f1, f2⟩ := hv
  exact ⟨⟨e1.trans h1, f1.trans h2, by rw [e2]; exact h3, by rw [e3]; exact h4, h5, h6⟩, hK0, by rw [e3]; exact h7, h8, fun j hj => by rw [f2]; exact h9 j hj, fun i hi => by rw [f2]; exact h10 i hi⟩
/-- nothing of it has changed but what queries write -/
theorem pX_same (h : pX x v K S B sp sv9 Bf e f Lo n t σ ρ) (hn : n ≤ n') (ht : ∀ a, x ≤ a → (a < x + 582 ∨ a = v) → t' a = t a) (hρ : ∀ a, x ≤ a → a < x + 582 → ρ' a = ρ a) (hf : ∀ a, x ≤ a → (a < x + 512 ∨ x + 546 ≤ a) → (a < x + 582 ∨ a = v) → σ' a = σ a) : pX x v K S B sp sv9 Bf e f Lo n' t' σ' ρ' := by
  obtain ⟨⟨⟨a1, a2, a3, a4⟩, b⟩, ⟨c1, c2, c3, c4⟩, ⟨d1, d2⟩, e0, ⟨f1, f2, f3, f4⟩, g0, i0, j0, k0⟩ := h
  refine ⟨⟨⟨ln_at_ex2 (fun a h1 h2 => ⟨ht a h1 (Or.inl h2), hρ a h1 h2⟩) a1, cl_rel_same (st_2 b.1) (fun a h1 h2 => hf a (by omega) (by omega) (by omega)) a2, cl_nn_same (fun q hq => hf _ (by omega) (by omega) (by omega)) a3, hs_rel_fr a4 (fun j hj => st_2 (b.2.2 j hj)) (fun a h1 h2 => hf a (by omega) (by omega) (by omega))⟩, b⟩, ⟨c1, by omega, c3, by omega⟩, ⟨cl_nn_same (fun q hq => hf _ (by omega) (by omega) (by omega)) d1, cl_nn_same (fun q hq => hf _ (by omega) (by omega) (by omega)) d2⟩, bd_is_ext e0 ⟨ht _ (by omega) (by omega), hρ _ (by omega) (by omega), hf _ (by omega) (by omega) (by omega)⟩ ⟨ht _ (by omega) (by omega), hf _ (by omega) (by omega) (by omega)⟩, ⟨?_, ?_, ?_, ?_⟩, fun h => ⟨cl_rel_same (st_2 (g0 h).2) (fun a h1 h2 => hf a (by omega) (by omega) (by omega)) (g0 h).1, (g0 h).2⟩, ?_, fun i hi => ?_, k0⟩
  · rw [hf x (by omega) (by omega) (by omega)]; exact f1
  · rw [hf x (by omega) (by omega) (by omega)]; exact f2
  · rw [hf x (by omega) (by omega) (by omega)]; exact f3
  · rw [hf (x + 550) (by omega) (by omega) (by omega)]; exact f4
  · rw [hf (x + 552) (by omega) (by omega) (by omega)]; exact i0
  · rw [hf _ (by omega) (by omega) (by omega)]; exact j0 i hi
/-- another network's call leaves it -/
theorem pX_keep (h : pX p w K2 S2 B2 sp2 sw9 Bg e2 f2 Lp n t σ ρ) (hf : pF x v n t σ ρ n' t' σ' ρ') (ha : pA x v p w) : pX p w K2 S2 B2 sp2 sw9 Bg e2 f2 Lp n' t' σ' ρ' := by
  obtain ⟨g1, g2, g3, g4⟩ := hf
  obtain ⟨a1, a2, a3, a4⟩ := ha
  obtain ⟨c1, c2, c3, c4⟩ := h.2.1
  exact pX_same h g1 (fun a h1 h2 => g2 a (by omega)) (fun a h1 h2 => g3 a (by omega) (by omega)) (fun a h1 h2 h3 => g4 a (by omega) (by omega) (by omega))
theorem pF_fr (h1 : x + 582 ≤ n) (hn : n ≤ n') (hf : ln_fr x σ σ') : pF x v n t σ ρ n' t σ' ρ := ⟨hn, fun _ _ => rfl, fun _ _ _ => rfl, fun a _ h _ => hf a (by omega)⟩
theorem pF_fc (hn : n ≤ n') (hf : ln_fc x σ σ') : pF x v n t σ ρ n' t σ' ρ := ⟨hn, fun _ _ => rfl, fun _ _ _ => rfl, fun a _ h _ => hf a (by omega) (by omega)⟩
/-- behind a query -/
theorem pX_q (h : pX x v K S B sp sv9 Bf e f Lo n t σ ρ) (hn : n ≤ n') (hf : ln_fr x σ σ') : pX x v K S B sp sv9 Bf e f Lo n' t σ' ρ ∧ pF x v n t σ ρ n' t σ' ρ := ⟨pX_same h hn (fun _ _ _ => rfl) (fun _ _ _ => rfl) (fun a _ h2 _ => hf a h2), pF_fr h.2.1.2.1 hn hf⟩
/-- behind a change -/
theorem pX_c {S9 : ps_S} {B9 : Int} (h : pX x v K S B sp sv9 Bf e f Lo n t σ ρ) (hn : n ≤ n') (hat : pc_at x S9 t σ' ρ) (hok : pc_ok B9 S9) (hB : B ≤ B9) (hB2 : B9 ≤ 1100000) (hf : ln_fc x σ σ') : pX x v K S9 B9 sp sv9 Bf e f Lo n' t σ' ρ ∧ pF x v n t σ ρ n' t σ' ρ := by
  obtain ⟨⟨-, b⟩, ⟨c1, c2, c3, c4⟩, ⟨d1, d2⟩, e0, ⟨f1, f2, f3, f4⟩, g0, i0, j0, k0⟩ := h
  refine ⟨⟨⟨hat, hok⟩, ⟨c1, by omega, c3, by omega⟩, ⟨cl_nn_same (fun q hq => hf _ (by omega) (by omega)) d1, cl_nn_same (fun q hq => hf _ (by omega) (by omega)) d2⟩, bd_same e0 (hf _ (by omega) (by omega)) (hf _ (by omega) (by omega)), ⟨?_, ?_, ?_, ?_⟩, fun h => ⟨cl_rel_same (st_2 (g0 h).2) (fun a h1 h2 => hf a (by omega) (by omega)) (g0 h).1, st_ok_up (g0 h).2 hB hB2⟩, ?_, fun i hi => ?_, k0⟩, pF_fc hn hf⟩
  · rw [hf x (by omega) (by omega)]; exact f1
  · rw [hf x (by omega) (by omega)]; exact f2
  · rw [hf x (by omega) (by omega)]; exact f3
  · rw [hf (x + 550) (by omega) (by omega)]; exact f4
  · rw [hf (x + 552) (by omega) (by omega)]; exact i0
  · rw [hf _ (by omega) (by omega)]; exact j0 i hi
end PGX
/-! texts typed -/
def tb (L : List Int) : Int → Int := fun j => if 0 ≤ j then L.getD j.toNat 0 else 0
def bf_k (Bf : Int → Int) (L : List Int) (k : Nat) : Int → Int := fun j => if 0 ≤ j ∧ j < (k : Int) then L.getD j.toNat 0 else Bf j
theorem bf_0 (Bf : Int → Int) (L : List Int) : bf_k Bf L 0 = Bf := by
  funext j; unfold bf_k; rw [if_neg (by omega)]
theorem bf_S (Bf : Int → Int) (L : List Int) (k : Nat) : jk_set (bf_k Bf L k) (k : Int) (L.getD ((k : Nat) : Int).toNat 0) = bf_k Bf L (k + 1) := by
  funext j
  unfold jk_set bf_k
  by_cases h : j = (k : Int)
  · subst h; rw [if_pos rfl, if_pos (by omega)]
  · rw [if_neg h]
    by_cases h2 : 0 ≤ j ∧ j < (k : Int)
    · rw [if_pos h2, if_pos (by omega)]
    · rw [if_neg h2, if_neg (by omega)]
theorem bf_tb (L0 L : List Int) : bf_k (tb L0) L L.length = tb (L ++ L0.drop L.length) := by
  funext j
  unfold bf_k tb
  by_cases h0 : 0 ≤ j
  · rw [if_pos h0, if_pos h0]
    by_cases h : j < (L.length : Int)
    · rw [if_pos ⟨h0, h⟩, List.getD_eq_getElem?_getD, List.getD_eq_getElem?_getD, List.getElem?_append_left (by omega)]
    · rw [if_neg (by omega), List.getD_eq_getElem?_getD, List.getD_eq_getElem?_getD, List.getElem?_append_right (by omega), List.getElem?_drop, show L.length + (j.toNat - L.length) = j.toNat by omega]
  · rw [if_neg h0, if_neg (by omega), if_neg h0]
theorem tb_nil : tb [] = fun _ => 0 := by
  funext j; unfold tb; split <;> rfl
def tx_ok (L : List Int) : Bool := decide (L.length ≤ 60) && L.all (fun c => decide (32 ≤ c ∧ c ≤ 126))
theorem tx_at {L : List Int} (h : tx_ok L = true) : L.length ≤ 60 ∧ ∀ i : Nat, i < L.length → 32 ≤ L.getD i 0 ∧ L.getD i 0 ≤ 126 := by
  unfold tx_ok at h
  rw [Bool.and_eq_true] at h
  refine ⟨of_decide_eq_true h.1, fun i hi => ?_⟩
  have := of_decide_eq_true (List.all_eq_true.mp h.2 (L.getD i 0) (by rw [List.getD_eq_getElem?_getD, List.getElem?_eq_getElem hi]; exact List.getElem_mem hi))
  exact this
def pu_Q (x : Nat) (Bf : Int → Int) (L : List Int) (m : Nat) (σ : jk_I) (n : Nat) (t : jk_T) (ρ : jk_P) : jk_Q := fun v' n' t' σ' ρ' => v' = none ∧ n' = n ∧ t' = t ∧ ρ' = ρ ∧ σ' (x + 552) = bf_k Bf L m ∧ σ' (x + 550) = jk_set (σ (x + 550)) 1 (m : Int) ∧ ∀ b, b ≠ x + 550 → b ≠ x + 552 → σ' b = σ b
theorem c_put {G : jk_G} {n : Nat} {t : jk_T} {σ : jk_I} {ρ : jk_P} {x a : Nat} {S : ps_S} {B : Int} {Bf : Int → Int} {L : List Int} (hz : zz_ok G) (hx : zx_ok G) (hv : zv_ok G) (hat : pc_at x S t σ ρ) (hok : pc_ok B S) (hs : st_is G t ρ σ a L) (htx : tx_ok L = true) (hb : σ (x + 552) = Bf) (h0 : σ (x + 550) 1 = 0) : jk_K G yL_put mL_put 60 360 [.ref x, .ref a] n t σ ρ (pu_Q x Bf L L.length σ n t ρ) jk_no := by
  obtain ⟨h60, hch⟩ := tx_at htx
  have hsc := hat.1.2.2.2.2.2.2.2.2
  have hkeep : ∀ σ2 : jk_I, (∀ b, b ≠ x + 550 → b ≠ x + 552 → σ2 b = σ b) → st_is G t ρ σ2 a L := fun σ2 hf => st_is_same hs (fun b hb => ⟨rfl, rfl, hf b (fun e => by subst e; rw [hsc.1.1] at hb; rcases hb with h | ⟨k, h⟩ <;> cases h) (fun e => by subst e; rw [hsc.1.2.1] at hb; rcases hb with h | ⟨k, h⟩ <;> cases h)⟩)
  refine jk_entryB (ls := [some (.ref x), some (.ref a), none]) jm_L_put.1 rfl rfl rfl ?_
  refine jk_iconst (q := 1) dL_put_0 rfl ?_
  refine jk_istore2 (q := 2) dL_put_1 rfl rfl rfl ?_
  have key : ∀ k : Nat, k ≤ L.length → ∀ σ2 rc rs, pu_Q x Bf L k σ n t ρ none n t σ2 ρ → 60 - k ≤ rc → 6 * (60 - k) ≤ rs → jk_J G mL_put 2 [some (.ref x), some (.ref a), some (jI (k : Int))] [] n t σ2 ρ rc rs (pu_Q x Bf L L.length σ n t ρ) jk_no := by
    refine jk_loop L.length (fun k hk ih => ?_)
    intro σ2 rc rs hp hrc hrs
    obtain ⟨-, -, -, -, p1, p2, p3⟩ := id hp
    have hst := hkeep σ2 p3
    refine jk_iload_n (q := 3) dL_put_2 rfl rfl ?_
    refine jk_aload_n (q := 4) dL_put_3 rfl rfl ?_
    refine jk_slen (q := 7) hz hst jw_1599 rfl rfl rfl dL_put_4 rfl ?_
    refine jk_icmp_ge (q := 26) (q2 := 10) dL_put_7 rfl rfl ⟨by omega, by omega⟩ ⟨by omega, by omega⟩ (fun h => ?_) (fun h => ?_)
    · have e : k = L.length := by omega
      subst e
      exact jk_ret rfl dL_put_26 hp
    · have hkL : k < L.length := by omega
      have hc := hch k hkL
      refine jk_aload_n (q := 11) dL_put_10 rfl rfl ?_
      refine jk_aload_n (q := 12) dL_put_11 rfl rfl ?_
      refine jk_iload_n (q := 13) dL_put_12 rfl rfl ?_
      refine jk_schr (q := 16) hz hv hst ⟨by omega, by omega⟩ jw_1600 rfl rfl rfl dL_put_13 rfl ?_
      have e9 : ((k : Nat) : Int).toNat = k := by omega
      refine jk_cV1g (q := 19) (k := 12) (c_X12_type (x := x) (sz := (k : Int)) hz hx hat.1 (cl_rel_same (st_2 hok.1) (fun b h1 h2 => p3 b (by omega) (by omega)) hat.2.1) hok.1.1 (cl_nn_same (fun q hq => p3 _ (by omega) (by omega)) hat.2.2.1) hok.1.2 (by rw [e9]; omega) (by rw [p2, jk_set_at]) (by omega)) jm_X12_type jw_1601 rfl hat.1.1 rfl rfl (by omega) (by omega) rfl dL_put_16 rfl (fun v' n' t' σ' ρ' hq => ?_) (fun E n' t' σ' ρ' hx9 => by
        have hin : md_in (L.getD ((k : Nat) : Int).toNat 0) 32 126 = true := decide_eq_true (by rw [e9]; omega)
        rcases hx9.1 with h9 | h9
        · rw [hin] at h9; exact absurd h9.1 (by decide)
        · omega)
      obtain ⟨-, rfl, rfl, rfl, rfl, hs9⟩ := hq
      simp only [Option.toList_some, List.cons_append, List.nil_append]
      refine jk_pop (q := 20) dL_put_19 rfl rfl ?_
      refine jk_iinc2 (q := 23) dL_put_20 rfl rfl rfl ?_
      refine jk_goto (q := 2) dL_put_23 rfl ?_
      refine jk_convl (ih hkL σ' _ _ ⟨rfl, rfl, rfl, rfl, ?_, ?_, fun b h1 h2 => ?_⟩ (by omega) (by omega)) (by rw [show ((k + 1 : Nat) : Int) = (k : Int) + 1 by push_cast; rfl])
      · rw [hs9, jk_row_ne _ _ (by omega), jk_row_same, p1]; exact bf_S Bf L k
      · rw [hs9, jk_row_same, p2]
        funext j
        unfold jk_set
        split
        · push_cast; rfl
        · rfl
      · rw [hs9, jk_row_ne _ _ h1, jk_row_ne _ _ h2]; exact p3 b h1 h2
  exact key 0 (Nat.zero_le _) σ 60 360 ⟨rfl, rfl, rfl, rfl, by rw [bf_0]; exact hb, by
    funext j
    unfold jk_set
    split
    · rename_i h; rw [h, h0]; rfl
    · rfl, fun _ _ _ => rfl⟩ (by omega) (by omega)
theorem c_isLine {G : jk_G} {n : Nat} {t : jk_T} {σ : jk_I} {ρ : jk_P} {x a v K : Nat} {S : ps_S} {B : Int} {L : List Int} (hz : zz_ok G) (hx : zx_ok G) (hv : zv_ok G) (hat : pc_at x S t σ ρ) (hok : pc_ok B S) (hbd : bd_is t ρ σ (x + 578) v K L) (hv9 : v = x + 580 ∨ x + 582 ≤ v) (hs : ∀ σ2, ln_fr x σ σ2 → st_is G t ρ σ2 a L) : jk_K G yL_isLine mL_isLine 40 240 [.ref x, jI ((L.length : Nat) : Int), .ref a] n t σ ρ (ln_RQ x 0 (jI 1) σ n t ρ) jk_no := by
  have hLK : L.length ≤ 34 := by
    obtain ⟨-, h1, -, h2, -⟩ := hbd
    omega
  refine jk_entryB (ls := [some (.ref x), some (jI ((L.length : Nat) : Int)), some (.ref a), none]) jm_L_isLine.1 rfl rfl rfl ?_
  refine jk_iload_n (q := 1) dL_isLine_0 rfl rfl ?_
  refine jk_aload_n (q := 2) dL_isLine_1 rfl rfl ?_
  refine jk_slen (q := 5) hz (hs σ (fun _ _ => rfl)) jw_1599 rfl rfl rfl dL_isLine_2 rfl ?_
  refine jk_icmp_eq (q := 10) (q2 := 8) dL_isLine_5 rfl rfl ⟨by omega, by omega⟩ ⟨by omega, by omega⟩ (fun h => ?_) (fun h => absurd rfl h)
  refine jk_iconst (q := 11) dL_isLine_10 rfl ?_
  refine jk_istore3 (q := 12) dL_isLine_11 rfl rfl rfl ?_
  have key : ∀ k : Nat, k ≤ L.length → ∀ σ2 rc rs, ln_fr x σ σ2 → 40 - k ≤ rc → 6 * (40 - k) ≤ rs → jk_J G mL_isLine 12 [some (.ref x), some (jI ((L.length : Nat) : Int)), some (.ref a), some (jI (k : Int))] [] n t σ2 ρ rc rs (ln_RQ x 0 (jI 1) σ n t ρ) jk_no := by
    refine jk_loop L.length (fun k hk ih => ?_)
    intro σ2 rc rs hf hrc hrs
    refine jk_iload_n (q := 13) dL_isLine_12 rfl rfl ?_
    refine jk_iload_n (q := 14) dL_isLine_13 rfl rfl ?_
    refine jk_icmp_ge (q := 38) (q2 := 17) dL_isLine_14 rfl rfl ⟨by omega, by omega⟩ ⟨by omega, by omega⟩ (fun h => ?_) (fun h => ?_)
    · refine jk_iconst (q := 39) dL_isLine_38 rfl ?_
      exact jk_zret rfl (by decide) dL_isLine_39 ⟨rfl, rfl, rfl, rfl, rfl, hf⟩
    · have hkL : k < L.length := by omega
      refine jk_aload_n (q := 18) dL_isLine_17 rfl rfl ?_
      refine jk_iload_n (q := 19) dL_isLine_18 rfl rfl ?_
      refine jq_call (q := 22) (As := [jI (k : Int)]) (c_X12_outputAt (x := x) (p := (k : Int)) hz hx hat.1 (ln_fr_rel (st_2 hok.1) hat.2.1 hf) hok.1.1 (ln_fr_nn hat.2.2.1 hf) hok.1.2 hv (bd_same hbd (hf _ (by omega)) (hf _ (by omega))) ⟨by omega, by omega⟩) (by rw [if_pos (show cl_has ((L.length : Nat) : Int) (k : Int) = true by unfold cl_has; exact decide_eq_true (by omega))]) jm_X12_outputAt jw_1689 rfl hat.1.1 rfl rfl rfl (by omega) (by omega) rfl dL_isLine_19 rfl (fun σ3 hf3 => ?_)
      have hf4 := ln_fr_t hf hf3
      have e9 : ((k : Nat) : Int).toNat = k := by omega
      refine jk_aload_n (q := 23) dL_isLine_22 rfl rfl ?_
      refine jk_iload_n (q := 24) dL_isLine_23 rfl rfl ?_
      refine jk_schr (q := 27) hz hv (hs σ3 hf4) ⟨by omega, by omega⟩ jw_1600 rfl rfl rfl dL_isLine_24 rfl ?_
      have hcb : 0 ≤ L.getD ((k : Nat) : Int).toNat 0 ∧ L.getD ((k : Nat) : Int).toNat 0 < 128 := by
        rw [e9, ← hbd.2.2.2.2.2 k hkL]
        obtain ⟨-, -, -, h2, h3, -⟩ := hbd
        exact h3 (k : Int) ⟨by omega, by omega⟩
      refine jk_icmp_eq (q := 32) (q2 := 30) dL_isLine_27 rfl rfl ⟨by omega, by omega⟩ ⟨by omega, by omega⟩ (fun h => ?_) (fun h => absurd rfl h)
      refine jk_iinc3 (q := 35) dL_isLine_32 rfl rfl rfl ?_
      refine jk_goto (q := 12) dL_isLine_35 rfl ?_
      exact jk_convl (ih hkL σ3 _ _ hf4 (by omega) (by omega)) (by rw [show ((k + 1 : Nat) : Int) = (k : Int) + 1 by push_cast; rfl])
  exact key 0 (Nat.zero_le _) σ 40 240 (fun _ _ => rfl) (by omega) (by omega)
end PG
