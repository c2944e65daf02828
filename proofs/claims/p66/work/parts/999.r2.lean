section R2
theorem md_li_tg {g : Int → Int} {L : Int} {s : md_SS} (h : ∀ l, s.1 l = 1 → md_good g l = true) : ∀ k : Nat, ∀ l, (md_li g L k s).1 l = 1 → md_good g l = true
  | 0, l, hl => h l hl
  | k + 1, l, hl => by
    unfold md_li at hl
    split at hl
    · unfold md_take at hl
      split at hl
      · rename_i h2
        by_cases e : l = (k : Int)
        · rw [e]; exact h2.1
        · dsimp only at hl
          rw [jk_set_ne _ _ e] at hl
          exact md_li_tg h k l hl
      · exact md_li_tg h k l hl
    · exact md_li_tg h k l hl
theorem md_kr_tg {g : Int → Int} : ∀ (L : Nat) (l : Int), (md_kr g L).1 l = 1 → md_good g l = true
  | 0, l, hl => absurd hl (by show ¬ (0 : Int) = 1; decide)
  | L + 1, l, hl => md_li_tg (md_kr_tg L) _ l hl
def md_mk (g : Int → Int) (l : Int) : Int := if md_T g l = 1 then 42 else if md_good g l = true then 111 else 120
theorem dg_len_le {v : Int} {k : Nat} (hk : 1 ≤ k) (h : md_abs v < md_p10 k) : (md_dgs v).length ≤ k + 1 := by
  have h1 := dg_len v
  have h2 : dg_n (md_abs v) ≤ k := by
    rcases Nat.lt_or_ge k (dg_n (md_abs v)) with h3 | h3
    · have := dg_n_gt hk h3; omega
    · exact h3
  split at h1 <;> omega
/-- what a rendering may have changed -/
def ln_wf (x v n : Nat) (t : jk_T) (σ : jk_I) (ρ : jk_P) (w n' : Nat) (t' : jk_T) (σ' : jk_I) (ρ' : jk_P) : Prop := (w = v ∨ n ≤ w) ∧ w < n' ∧ n ≤ n' ∧ (∀ a, a < n → t' a = t a) ∧ (∀ a, a < n → a ≠ x + 578 → ρ' a = ρ a) ∧ ∀ a, a < n → (a < x + 512 ∨ x + 546 ≤ a) → a ≠ x + 578 → a ≠ v → σ' a = σ a
theorem ln_at_bd {x v n w n' : Nat} {t t' : jk_T} {σ σ' : jk_I} {ρ ρ' : jk_P} (hf : bd_fr (x + 578) v n t σ ρ w n' t' σ' ρ') (hn : x + 582 ≤ n) (h : ln_at t ρ x) : ln_at t' ρ' x := by
  obtain ⟨hx0, ⟨hx1, hx2, hx3, hx4, hx5, hx6, hx7, hx8, hx9, hx10, hx11, hx12⟩, hB4, hSN, hH, hhe, hba, hch, hsc⟩ := h
  have hx : ∀ a, a < x + 578 → t' a = t a ∧ ρ' a = ρ a := fun a ha => ⟨hf.2.2.2.1 a (by omega), hf.2.2.2.2.1 a (by omega) (by omega)⟩
  obtain ⟨e0, e⟩ := hx x (by omega)
  exact ⟨by rw [e0]; exact hx0, ⟨by rw [e]; exact hx1, by rw [e]; exact hx2, by rw [e]; exact hx3, by rw [e]; exact hx4, by rw [e]; exact hx5, by rw [e]; exact hx6, by rw [e]; exact hx7, by rw [e]; exact hx8, by rw [e]; exact hx9, by rw [e]; exact hx10, by rw [e]; exact hx11, by rw [e]; exact hx12⟩, cl_at_ext hx (by omega) hB4, cl_at_ext hx (by omega) hSN, hs_at_ext hx (by omega) hH, he_at_ext hx (by omega) hhe, ba_at_ext hx (by omega) hba, ch_at_ext hx (by omega) hch, sc_at_ext hx (by omega) hsc⟩
/-- the state of a rendering -/
def rd_st (x v n : Nat) (t : jk_T) (σ : jk_I) (ρ : jk_P) (g : Int → Int) (L : List Int) (w K n' : Nat) (t' : jk_T) (σ' : jk_I) (ρ' : jk_P) : Prop := bd_is t' ρ' σ' (x + 578) w K L ∧ ln_wf x v n t σ ρ w n' t' σ' ρ' ∧ ln_at t' ρ' x ∧ cl_rel σ' (x + 2) g ∧ fo_ok σ' (x + 512) g
theorem bd_same {t : jk_T} {ρ : jk_P} {σ σ1 : jk_I} {b v K : Nat} {L : List Int} (h : bd_is t ρ σ b v K L) (h1 : σ1 b = σ b) (h2 : σ1 v = σ v) : bd_is t ρ σ1 b v K L := by
  obtain ⟨⟨g1, g2, g3, g4, g5, g6⟩, hK2, h7, h8, h9, h10⟩ := h
  exact ⟨⟨g1, g2, g3, by rw [h1]; exact g4, g5, g6⟩, hK2, by rw [h1]; exact h7, h8, by rw [h2]; exact h9, by rw [h2]; exact h10⟩
theorem rd_0 {x v K n : Nat} {t : jk_T} {σ σ1 : jk_I} {ρ : jk_P} {g : Int → Int} {L : List Int} (hn : x + 582 ≤ n) (hv9 : v = x + 580 ∨ x + 582 ≤ v) (hvn : v < n) (hbd : bd_is t ρ σ (x + 578) v K L) (hln : ln_at t ρ x) (hf : ln_fr x σ σ1) (hr : cl_rel σ1 (x + 2) g) (ho : fo_ok σ1 (x + 512) g) : rd_st x v n t σ ρ g L v K n t σ1 ρ :=
  ⟨bd_same hbd (hf _ (by omega)) (hf _ (by omega)), ⟨Or.inl rfl, hvn, Nat.le_refl _, fun _ _ => rfl, fun _ _ _ => rfl, fun a _ h2 _ _ => hf a h2⟩, hln, hr, ho⟩
theorem rd_S {x v n w K n1 w2 K2 n2 : Nat} {t t1 t2 : jk_T} {σ σ1 σ2 : jk_I} {ρ ρ1 ρ2 : jk_P} {g : Int → Int} {L L2 : List Int} (hg2 : g 2 ≤ 4) (hn : x + 582 ≤ n) (hv9 : v = x + 580 ∨ x + 582 ≤ v) (h : rd_st x v n t σ ρ g L w K n1 t1 σ1 ρ1) (hb : bd_is t2 ρ2 σ2 (x + 578) w2 K2 L2) (hf : bd_fr (x + 578) w n1 t1 σ1 ρ1 w2 n2 t2 σ2 ρ2) : rd_st x v n t σ ρ g L2 w2 K2 n2 t2 σ2 ρ2 := by
  obtain ⟨-, ⟨a1, a2, a3, a4, a5, a6⟩, h3, h4, h5⟩ := h
  obtain ⟨b1, b2, b3, b4, b5, b6⟩ := hf
  refine ⟨hb, ⟨by omega, b2, by omega, fun a h => (b4 a (by omega)).trans (a4 a h), fun a h h1 => (b5 a (by omega) h1).trans (a5 a h h1), fun a h h0 h1 h2 => (b6 a (by omega) h1 (by omega)).trans (a6 a h h0 h1 h2)⟩, ln_at_bd ⟨b1, b2, b3, b4, b5, b6⟩ (by omega) h3, cl_rel_same hg2 (fun a h1 h2 => b6 a (by omega) (by omega) (by omega)) h4, fo_ok_same (fun a h1 h2 => b6 a (by omega) (by omega) (by omega)) h5⟩
theorem rd_F {x v n w K n1 : Nat} {t t1 : jk_T} {σ σ1 σ2 : jk_I} {ρ ρ1 : jk_P} {g : Int → Int} {L : List Int} (hg2 : g 2 ≤ 4) (hn : x + 582 ≤ n) (hv9 : v = x + 580 ∨ x + 582 ≤ v) (h : rd_st x v n t σ ρ g L w K n1 t1 σ1 ρ1) (hf : ∀ a, (a < x + 522 ∨ x + 546 ≤ a) → σ2 a = σ1 a) : rd_st x v n t σ ρ g L w K n1 t1 σ2 ρ1 := by
  obtain ⟨h1, ⟨a1, a2, a3, a4, a5, a6⟩, h3, h4, h5⟩ := h
  exact ⟨bd_same h1 (hf _ (by omega)) (hf _ (by omega)), ⟨a1, a2, a3, a4, a5, fun a h h0 h1 h2 => (hf a (by omega)).trans (a6 a h h0 h1 h2)⟩, h3, cl_rel_same hg2 (fun a h1 h2 => hf a (by omega)) h4, fo_ok_same (fun a h1 h2 => hf a (by omega)) h5⟩
def wr_Q (x v n : Nat) (t : jk_T) (σ : jk_I) (ρ : jk_P) (b : Bool) (L : List Int) : jk_Q := fun v' n' t' σ' ρ' => b = true ∧ v' = some (jI (L.length : Nat)) ∧ ∃ w K, bd_is t' ρ' σ' (x + 578) w K L ∧ ln_wf x v n t σ ρ w n' t' σ' ρ'
def wr_X (x n : Nat) (t : jk_T) (σ : jk_I) (ρ : jk_P) (b : Bool) : jk_X := fun E n' t' σ' ρ' => b = false ∧ E = "java/lang/IndexOutOfBoundsException" ∧ n ≤ n' ∧ t' = t ∧ ρ' = ρ ∧ ln_fr x σ σ'

theorem c_X12_markOf {G : jk_G} {n : Nat} {t : jk_T} {σ : jk_I} {ρ : jk_P} {x : Nat} {g : Int → Int} {B : Int} {p : Int} (hz : zz_ok G) (hx : zx_ok G) (hln : ln_at t ρ x) (hr : cl_rel σ (x + 2) g) (ha : md_all B g) (hnn : cl_nn σ (x + 2)) (hsi : md_sit g) (hp9 : 0 ≤ p ∧ p < g 1) (ho : fo_ok σ (x + 512) g) : jk_K G yX12_markOf mX12_markOf 0 0 [.ref x, jI p] n t σ ρ (jk_q (some (jI (md_mk g p))) n t σ ρ) jk_no := by
  obtain ⟨hx0, ⟨hx1, hx2, hx3, hx4, hx5, hx6, hx7, hx8, hx9, hx10, hx11, hx12⟩, hB4, hSN, hH, hhe, hba, hch, hsc⟩ := id hln
  obtain ⟨hcc, hwa, hsh, hwy, hyc⟩ := id hch
  obtain ⟨-, -, hfo, hfw⟩ := id hwa
  obtain ⟨-, -, -, -, hs, hsf⟩ := id hfo
  have hi := ha.1
  have hw := ha.2.1
  have hxx := ha.2.2.1
  have i0 := hi.1
  have i1 := hi.2.1
  have i2 := hi.2.2.1
  have i3 := hi.2.2.2.1
  obtain ⟨q0, q1, q2, q3⟩ := hr.1
  have hf0 : ln_fr x σ σ := fun _ _ => rfl
  refine jk_entryB (ls := [some (.ref x), some (jI p)]) jm_X12_markOf.1 rfl rfl rfl ?_
  refine jk_aload_n (q := 1) dX12_markOf_0 rfl rfl ?_
  refine jk_getA (q := 4) (k := 12) 0 0 rfl (by first | exact hx0 | exact hs.1 | exact hs.2.1 _ _ rfl | exact hfo.1 | exact hfo.2.1 _ _ rfl | exact hwa.1.1 | exact hwa.1.2.1 | exact hwa.1.2.2 | exact hsh.1.1 | exact hsh.1.2.1 | exact hhe.1.1 | exact hba.1.1 | exact hcc.1 | exact hH.1 | exact hsc.1.1 | exact hB4.1 | exact hSN.1 | assumption) (by first | assumption | exact hs.2.2.1 _ _ rfl | exact hfo.2.2.1 _ _ rfl | exact hwa.2.1.2.2.1 | exact hsh.2.1.2.1) rfl rfl jw_375 dX12_markOf_1 rfl ?_
  refine jk_iload_n (q := 5) dX12_markOf_4 rfl rfl ?_
  refine jk_cV1p (q := 8) (c_X9_usable hs hr hi hp9) jm_X9_usable jw_965 rfl (by first | exact hx0 | exact hs.1 | exact hs.2.1 _ _ rfl | exact hfo.1 | exact hfo.2.1 _ _ rfl | exact hwa.1.1 | exact hwa.1.2.1 | exact hwa.1.2.2 | exact hsh.1.1 | exact hsh.1.2.1 | exact hhe.1.1 | exact hba.1.1 | exact hcc.1 | exact hH.1 | exact hsc.1.1 | exact hB4.1 | exact hSN.1 | assumption) rfl rfl rfl dX12_markOf_5 rfl ?_
  refine jk_ifB_ne (q := 14) (q2 := 11) dX12_markOf_8 rfl rfl (fun z1 => ?_) (fun z1 => ?_)
  · have hgd : md_good g p = true := by assumption
    have hT9 := (md_kr_tr hi 50).1 p ⟨by omega, by omega⟩
    rw [show (md_kr g 50).1 = md_T g from rfl] at hT9
    refine jk_aload_n (q := 15) dX12_markOf_14 rfl rfl ?_
    refine jk_getA (q := 18) (k := 12) 5 5 rfl (by first | exact hx0 | exact hs.1 | exact hs.2.1 _ _ rfl | exact hfo.1 | exact hfo.2.1 _ _ rfl | exact hwa.1.1 | exact hwa.1.2.1 | exact hwa.1.2.2 | exact hsh.1.1 | exact hsh.1.2.1 | exact hhe.1.1 | exact hba.1.1 | exact hcc.1 | exact hH.1 | exact hsc.1.1 | exact hB4.1 | exact hSN.1 | assumption) (by first | assumption | exact hs.2.2.1 _ _ rfl | exact hfo.2.2.1 _ _ rfl | exact hwa.2.1.2.2.1 | exact hsh.2.1.2.1) rfl rfl jw_380 dX12_markOf_15 rfl ?_
    refine jk_getA (q := 21) (k := 3) 4 4 rfl (by first | exact hx0 | exact hs.1 | exact hs.2.1 _ _ rfl | exact hfo.1 | exact hfo.2.1 _ _ rfl | exact hwa.1.1 | exact hwa.1.2.1 | exact hwa.1.2.2 | exact hsh.1.1 | exact hsh.1.2.1 | exact hhe.1.1 | exact hba.1.1 | exact hcc.1 | exact hH.1 | exact hsc.1.1 | exact hB4.1 | exact hSN.1 | assumption) (by first | assumption | exact hs.2.2.1 _ _ rfl | exact hfo.2.2.1 _ _ rfl | exact hwa.2.1.2.2.1 | exact hsh.2.1.2.1) rfl rfl jw_196 dX12_markOf_18 rfl ?_
    refine jk_iload_n (q := 22) dX12_markOf_21 rfl rfl ?_
    refine jk_zaldR (q := 23) (by first | exact hx0 | exact hs.1 | exact hs.2.1 _ _ rfl | exact hfo.1 | exact hfo.2.1 _ _ rfl | exact hwa.1.1 | exact hwa.1.2.1 | exact hwa.1.2.2 | exact hsh.1.1 | exact hsh.1.2.1 | exact hhe.1.1 | exact hba.1.1 | exact hcc.1 | exact hH.1 | exact hsc.1.1 | exact hB4.1 | exact hSN.1 | assumption) (by first | exact jk_row_same _ _ _ | ((repeat rewrite [jk_row_ne _ _ (by omega)]); first | exact jk_row_same _ _ _ | rfl)) (by first | assumption | decide | omega | exact jB_01 _ | exact jB_in _ | exact ⟨by omega, by omega⟩ | (show jk_in (md_T g p); rcases hT9 with h9 | h9 <;> rw [h9] <;> decide)) dX12_markOf_22 rfl ?_
    rw [ho.1 p ⟨by omega, by omega⟩]
    refine jk_if_eq (q := 31) (q2 := 26) dX12_markOf_23 rfl rfl (by first | assumption | decide | omega | exact jB_01 _ | exact jB_in _ | exact ⟨by omega, by omega⟩ | (show jk_in (md_T g p); rcases hT9 with h9 | h9 <;> rw [h9] <;> decide)) (fun z2 => ?_) (fun z2 => ?_)
    · refine jk_bipush (q := 33) (y := 111) dX12_markOf_31 rfl (by decide) ?_
      exact jk_cret rfl (by first | assumption | decide | omega | exact jB_01 _ | exact jB_in _ | exact ⟨by omega, by omega⟩ | (show jk_in (md_T g p); rcases hT9 with h9 | h9 <;> rw [h9] <;> decide)) dX12_markOf_33 (by refine jk_qI ?_; unfold md_mk; first | rw [if_neg (by omega), if_pos hgd] | rw [if_pos (by omega)])
    · refine jk_bipush (q := 28) (y := 42) dX12_markOf_26 rfl (by decide) ?_
      refine jk_goto (q := 33) dX12_markOf_28 rfl ?_
      exact jk_cret rfl (by first | assumption | decide | omega | exact jB_01 _ | exact jB_in _ | exact ⟨by omega, by omega⟩ | (show jk_in (md_T g p); rcases hT9 with h9 | h9 <;> rw [h9] <;> decide)) dX12_markOf_33 (by refine jk_qI ?_; unfold md_mk; first | rw [if_neg (by omega), if_pos hgd] | rw [if_pos (by omega)])
  · have hgd : md_good g p = false := by assumption
    refine jk_bipush (q := 13) (y := 120) dX12_markOf_11 rfl (by decide) ?_
    exact jk_cret rfl (by first | assumption | decide | omega | exact jB_01 _ | exact jB_in _ | exact ⟨by omega, by omega⟩ | (show jk_in (md_T g p); rcases hT9 with h9 | h9 <;> rw [h9] <;> decide)) dX12_markOf_13 (by refine jk_qI ?_; unfold md_mk; rw [if_neg (fun h => by have := md_kr_tg 50 p h; rw [hgd] at this; exact absurd this (by decide)), if_neg (by rw [hgd]; decide)])
theorem c_X12_renderLine {G : jk_G} {n : Nat} {t : jk_T} {σ : jk_I} {ρ : jk_P} {x : Nat} {g : Int → Int} {B : Int} {p : Int} {v K : Nat} {L : List Int} (hz : zz_ok G) (hx : zx_ok G) (hln : ln_at t ρ x) (hr : cl_rel σ (x + 2) g) (ha : md_all B g) (hnn : cl_nn σ (x + 2)) (hsi : md_sit g) (hzp : zp_ok G) (hbd : bd_is t ρ σ (x + 578) v K L) (hn : x + 582 ≤ n) (hv9 : v = x + 580 ∨ x + 582 ≤ v) (hvn : v < n) (hp : jk_in p) : jk_K G yX12_renderLine mX12_renderLine 12 400 [.ref x, jI p] n t σ ρ (wr_Q x v n t σ ρ (cl_has (g 1) p) (md_rnl g p)) (wr_X x n t σ ρ (cl_has (g 1) p)) := by
  obtain ⟨hx0, ⟨hx1, hx2, hx3, hx4, hx5, hx6, hx7, hx8, hx9, hx10, hx11, hx12⟩, hB4, hSN, hH, hhe, hba, hch, hsc⟩ := id hln
  obtain ⟨hcc, hwa, hsh, hwy, hyc⟩ := id hch
  obtain ⟨-, -, hfo, hfw⟩ := id hwa
  obtain ⟨-, -, -, -, hs, hsf⟩ := id hfo
  have hi := ha.1
  have hw := ha.2.1
  have hxx := ha.2.2.1
  have i0 := hi.1
  have i1 := hi.2.1
  have i2 := hi.2.2.1
  have i3 := hi.2.2.2.1
  obtain ⟨q0, q1, q2, q3⟩ := hr.1
  have hf0 : ln_fr x σ σ := fun _ _ => rfl
  refine jk_entryB (ls := [some (.ref x), some (jI p)]) jm_X12_renderLine.1 rfl rfl rfl ?_
  refine jk_aload_n (q := 1) dX12_renderLine_0 rfl rfl ?_
  refine jk_iload_n (q := 2) dX12_renderLine_1 rfl rfl ?_
  refine jk_cV1g (q := 5) (c_X12_requireLine hz hx hln hr ha hnn hsi hp) jm_X12_requireLine jw_944 rfl (by first | exact hx0 | exact hs.1 | exact hs.2.1 _ _ rfl | exact hfo.1 | exact hfo.2.1 _ _ rfl | exact hwa.1.1 | exact hwa.1.2.1 | exact hwa.1.2.2 | exact hsh.1.1 | exact hsh.1.2.1 | exact hhe.1.1 | exact hba.1.1 | exact hcc.1 | exact hH.1 | exact hsc.1.1 | exact hB4.1 | exact hSN.1 | exact hbd.1.1 | exact hr9 | assumption) rfl rfl (by decide) (by decide) rfl dX12_renderLine_2 rfl (fun v' n' t' σ8 ρ' hq => ?_) (fun E n' t' σ' ρ' hx9 => by
            obtain ⟨rfl, hn9, rfl, rfl, zr, rfl⟩ := hx9
            exact ⟨zr, rfl, hn9, rfl, rfl, hf0⟩)
  obtain ⟨rfl, hn9, ht9, hr9, zr, hss⟩ := hq
  replace hn9 := hn9.symm; replace ht9 := ht9.symm; replace hr9 := hr9.symm; subst hn9 ht9 hr9
  simp only [Option.toList_some, Option.toList_none, List.cons_append, List.nil_append, Nat.sub_zero]
  replace hss := hss.symm
  subst hss
  have hp9 := cl_hasT zr
  obtain ⟨l1, l2, l3, l4, l5, l6, l7, l8⟩ := md_inv_ln hi (l := p) ⟨by omega, by omega⟩
  have hcb := md_cor_bd hi (l := p) ⟨by omega, by omega⟩
  have d1 := dg_len_le (v := p) (k := 2) (by decide) (by unfold md_abs; split <;> (show _ < (100 : Int)) <;> omega)
  have d2 := dg_len_le (v := g (24 + p)) (k := 1) (by decide) (by unfold md_abs; split <;> (show _ < (10 : Int)) <;> omega)
  have d3 := dg_len_le (v := g (40 + p)) (k := 1) (by decide) (by unfold md_abs; split <;> (show _ < (10 : Int)) <;> omega)
  have d4 := dg_len_le (v := md_cor g p) (k := 7) (by decide) (by unfold md_abs; split <;> (show _ < (10000000 : Int)) <;> omega)
  have d5 := dg_len_le (v := g (56 + p)) (k := 2) (by decide) (by unfold md_abs; split <;> (show _ < (100 : Int)) <;> omega)
  refine jk_aload_n (q := 6) dX12_renderLine_5 rfl rfl ?_
  refine jk_getA (q := 9) (k := 12) 5 5 rfl (by first | exact hx0 | exact hs.1 | exact hs.2.1 _ _ rfl | exact hfo.1 | exact hfo.2.1 _ _ rfl | exact hwa.1.1 | exact hwa.1.2.1 | exact hwa.1.2.2 | exact hsh.1.1 | exact hsh.1.2.1 | exact hhe.1.1 | exact hba.1.1 | exact hcc.1 | exact hH.1 | exact hsc.1.1 | exact hB4.1 | exact hSN.1 | exact hbd.1.1 | exact hr9 | assumption) (by first | assumption | exact hs.2.2.1 _ _ rfl | exact hfo.2.2.1 _ _ rfl | exact hwa.2.1.2.2.1 | exact hsh.2.1.2.1) rfl rfl jw_380 dX12_renderLine_6 rfl ?_
  refine jk_cV0g (q := 12) (c_X3_find hfo hr hi hw) jm_X3_find jw_865 rfl (by first | exact hx0 | exact hs.1 | exact hs.2.1 _ _ rfl | exact hfo.1 | exact hfo.2.1 _ _ rfl | exact hwa.1.1 | exact hwa.1.2.1 | exact hwa.1.2.2 | exact hsh.1.1 | exact hsh.1.2.1 | exact hhe.1.1 | exact hba.1.1 | exact hcc.1 | exact hH.1 | exact hsc.1.1 | exact hB4.1 | exact hSN.1 | exact hbd.1.1 | exact hr9 | assumption) rfl rfl (Nat.zero_le _) (Nat.zero_le _) rfl dX12_renderLine_9 rfl (fun v' n' t' σ1 ρ' hq => ?_) (fun _ _ _ _ _ h => h.elim)
  obtain ⟨rfl, hn9, ht9, hr9, hp1⟩ := hq
  replace hn9 := hn9.symm; replace ht9 := ht9.symm; replace hr9 := hr9.symm; subst hn9 ht9 hr9
  simp only [Option.toList_some, Option.toList_none, List.cons_append, List.nil_append, Nat.sub_zero]
  have hf1 : ln_fr x σ σ1 := fun a h => (hp1.1 a (by omega) (by omega) (by omega) (by omega)).trans (hf0 a h)
  have hr1 : cl_rel σ1 (x + 2) g := cl_rel_same i2.2 (fun a h1 h2 => hf1 a (Or.inl (by omega))) hr
  have ho1 := hp1.2
  have hst := rd_0 hn hv9 hvn hbd hln hf1 hr1 ho1
  obtain ⟨hbd, hwf, hln, hr, ho⟩ := id hst
  obtain ⟨hx0, ⟨hx1, hx2, hx3, hx4, hx5, hx6, hx7, hx8, hx9, hx10, hx11, hx12⟩, hB4, hSN, hH, hhe, hba, hch, hsc⟩ := id hln
  obtain ⟨hcc, hwa, hsh, hwy, hyc⟩ := id hch
  obtain ⟨-, -, hfo, hfw⟩ := id hwa
  obtain ⟨-, -, -, -, hs, hsf⟩ := id hfo
  have hwn := hwf.2.1
  have hnn9 := hwf.2.2.1
  refine jk_aload_n (q := 13) dX12_renderLine_12 rfl rfl ?_
  refine jk_getA (q := 16) (k := 12) 12 12 rfl (by first | exact hx0 | exact hs.1 | exact hs.2.1 _ _ rfl | exact hfo.1 | exact hfo.2.1 _ _ rfl | exact hwa.1.1 | exact hwa.1.2.1 | exact hwa.1.2.2 | exact hsh.1.1 | exact hsh.1.2.1 | exact hhe.1.1 | exact hba.1.1 | exact hcc.1 | exact hH.1 | exact hsc.1.1 | exact hB4.1 | exact hSN.1 | exact hbd.1.1 | exact hr9 | assumption) (by first | assumption | exact hs.2.2.1 _ _ rfl | exact hfo.2.2.1 _ _ rfl | exact hwa.2.1.2.2.1 | exact hsh.2.1.2.1) rfl rfl jw_387 dX12_renderLine_13 rfl ?_
  refine jk_iconst (q := 17) dX12_renderLine_16 rfl ?_
  refine jk_cV1g (q := 20) (c_J4_setLength_d00df (b := x + 578) hbd hzp (by omega) (by omega)) jm_J4_setLength_d00df jw_1199 rfl (by first | exact hx0 | exact hs.1 | exact hs.2.1 _ _ rfl | exact hfo.1 | exact hfo.2.1 _ _ rfl | exact hwa.1.1 | exact hwa.1.2.1 | exact hwa.1.2.2 | exact hsh.1.1 | exact hsh.1.2.1 | exact hhe.1.1 | exact hba.1.1 | exact hcc.1 | exact hH.1 | exact hsc.1.1 | exact hB4.1 | exact hSN.1 | exact hbd.1.1 | exact hr9 | assumption) rfl rfl (by decide) (by decide) rfl dX12_renderLine_17 rfl (fun v' n2 t2 σ2 ρ2 hq => ?_) (fun _ _ _ _ _ h => h.elim)
  obtain ⟨rfl, w2, K2, hb9, -, hf9⟩ := hq
  simp only [Option.toList_some, Option.toList_none, List.cons_append, List.nil_append]
  have hst := rd_S i2.2 hn hv9 hst hb9 hf9
  obtain ⟨hbd, hwf, hln, hr, ho⟩ := id hst
  obtain ⟨hx0, ⟨hx1, hx2, hx3, hx4, hx5, hx6, hx7, hx8, hx9, hx10, hx11, hx12⟩, hB4, hSN, hH, hhe, hba, hch, hsc⟩ := id hln
  obtain ⟨hcc, hwa, hsh, hwy, hyc⟩ := id hch
  obtain ⟨-, -, hfo, hfw⟩ := id hwa
  obtain ⟨-, -, -, -, hs, hsf⟩ := id hfo
  have hwn := hwf.2.1
  have hnn9 := hwf.2.2.1
  refine jk_aload_n (q := 21) dX12_renderLine_20 rfl rfl ?_
  refine jk_getA (q := 24) (k := 12) 12 12 rfl (by first | exact hx0 | exact hs.1 | exact hs.2.1 _ _ rfl | exact hfo.1 | exact hfo.2.1 _ _ rfl | exact hwa.1.1 | exact hwa.1.2.1 | exact hwa.1.2.2 | exact hsh.1.1 | exact hsh.1.2.1 | exact hhe.1.1 | exact hba.1.1 | exact hcc.1 | exact hH.1 | exact hsc.1.1 | exact hB4.1 | exact hSN.1 | exact hbd.1.1 | exact hr9 | assumption) (by first | assumption | exact hs.2.2.1 _ _ rfl | exact hfo.2.2.1 _ _ rfl | exact hwa.2.1.2.2.1 | exact hsh.2.1.2.1) rfl rfl jw_387 dX12_renderLine_21 rfl ?_
  refine jk_iload_n (q := 25) dX12_renderLine_24 rfl rfl ?_
  refine jk_cV1g (q := 28) (c_J4_append_bf812 (b := x + 578) hbd hz hzp (by omega) (by omega) (x := p) (by omega) (by simp only [List.length_append, List.length_cons, List.length_nil]; omega)) jm_J4_append_bf812 jw_1470 rfl (by first | exact hx0 | exact hs.1 | exact hs.2.1 _ _ rfl | exact hfo.1 | exact hfo.2.1 _ _ rfl | exact hwa.1.1 | exact hwa.1.2.1 | exact hwa.1.2.2 | exact hsh.1.1 | exact hsh.1.2.1 | exact hhe.1.1 | exact hba.1.1 | exact hcc.1 | exact hH.1 | exact hsc.1.1 | exact hB4.1 | exact hSN.1 | exact hbd.1.1 | exact hr9 | assumption) rfl rfl (by decide) (by decide) rfl dX12_renderLine_25 rfl (fun v' n3 t3 σ3 ρ3 hq => ?_) (fun _ _ _ _ _ h => h.elim)
  obtain ⟨rfl, w3, K3, hb9, -, hf9⟩ := hq
  simp only [Option.toList_some, Option.toList_none, List.cons_append, List.nil_append]
  have hst := rd_S i2.2 hn hv9 hst hb9 hf9
  obtain ⟨hbd, hwf, hln, hr, ho⟩ := id hst
  obtain ⟨hx0, ⟨hx1, hx2, hx3, hx4, hx5, hx6, hx7, hx8, hx9, hx10, hx11, hx12⟩, hB4, hSN, hH, hhe, hba, hch, hsc⟩ := id hln
  obtain ⟨hcc, hwa, hsh, hwy, hyc⟩ := id hch
  obtain ⟨-, -, hfo, hfw⟩ := id hwa
  obtain ⟨-, -, -, -, hs, hsf⟩ := id hfo
  have hwn := hwf.2.1
  have hnn9 := hwf.2.2.1
  refine jk_bipush (q := 30) (y := 58) dX12_renderLine_28 rfl (by decide) ?_
  refine jk_cV1g (q := 33) (c_J4_append_cf468 (b := x + 578) hbd hz hzp (by omega) (by omega) (c := 58) (by decide) (by simp only [List.length_append, List.length_cons, List.length_nil]; omega)) jm_J4_append_cf468 jw_1471 rfl (by first | exact hx0 | exact hs.1 | exact hs.2.1 _ _ rfl | exact hfo.1 | exact hfo.2.1 _ _ rfl | exact hwa.1.1 | exact hwa.1.2.1 | exact hwa.1.2.2 | exact hsh.1.1 | exact hsh.1.2.1 | exact hhe.1.1 | exact hba.1.1 | exact hcc.1 | exact hH.1 | exact hsc.1.1 | exact hB4.1 | exact hSN.1 | exact hbd.1.1 | exact hr9 | assumption) rfl rfl (by decide) (by decide) rfl dX12_renderLine_30 rfl (fun v' n4 t4 σ4 ρ4 hq => ?_) (fun _ _ _ _ _ h => h.elim)
  obtain ⟨rfl, w4, K4, hb9, -, hf9⟩ := hq
  simp only [Option.toList_some, Option.toList_none, List.cons_append, List.nil_append]
  have hst := rd_S i2.2 hn hv9 hst hb9 hf9
  obtain ⟨hbd, hwf, hln, hr, ho⟩ := id hst
  obtain ⟨hx0, ⟨hx1, hx2, hx3, hx4, hx5, hx6, hx7, hx8, hx9, hx10, hx11, hx12⟩, hB4, hSN, hH, hhe, hba, hch, hsc⟩ := id hln
  obtain ⟨hcc, hwa, hsh, hwy, hyc⟩ := id hch
  obtain ⟨-, -, hfo, hfw⟩ := id hwa
  obtain ⟨-, -, -, -, hs, hsf⟩ := id hfo
  have hwn := hwf.2.1
  have hnn9 := hwf.2.2.1
  refine jk_pop (q := 34) dX12_renderLine_33 rfl rfl ?_
  refine jk_aload_n (q := 35) dX12_renderLine_34 rfl rfl ?_
  refine jk_getA (q := 38) (k := 12) 12 12 rfl (by first | exact hx0 | exact hs.1 | exact hs.2.1 _ _ rfl | exact hfo.1 | exact hfo.2.1 _ _ rfl | exact hwa.1.1 | exact hwa.1.2.1 | exact hwa.1.2.2 | exact hsh.1.1 | exact hsh.1.2.1 | exact hhe.1.1 | exact hba.1.1 | exact hcc.1 | exact hH.1 | exact hsc.1.1 | exact hB4.1 | exact hSN.1 | exact hbd.1.1 | exact hr9 | assumption) (by first | assumption | exact hs.2.2.1 _ _ rfl | exact hfo.2.2.1 _ _ rfl | exact hwa.2.1.2.2.1 | exact hsh.2.1.2.1) rfl rfl jw_387 dX12_renderLine_35 rfl ?_
  refine jk_aload_n (q := 39) dX12_renderLine_38 rfl rfl ?_
  refine jk_getA (q := 42) (k := 12) 0 0 rfl (by first | exact hx0 | exact hs.1 | exact hs.2.1 _ _ rfl | exact hfo.1 | exact hfo.2.1 _ _ rfl | exact hwa.1.1 | exact hwa.1.2.1 | exact hwa.1.2.2 | exact hsh.1.1 | exact hsh.1.2.1 | exact hhe.1.1 | exact hba.1.1 | exact hcc.1 | exact hH.1 | exact hsc.1.1 | exact hB4.1 | exact hSN.1 | exact hbd.1.1 | exact hr9 | assumption) (by first | assumption | exact hs.2.2.1 _ _ rfl | exact hfo.2.2.1 _ _ rfl | exact hwa.2.1.2.2.1 | exact hsh.2.1.2.1) rfl rfl jw_375 dX12_renderLine_39 rfl ?_
  refine jk_getA (q := 45) (k := 9) 4 4 rfl (by first | exact hx0 | exact hs.1 | exact hs.2.1 _ _ rfl | exact hfo.1 | exact hfo.2.1 _ _ rfl | exact hwa.1.1 | exact hwa.1.2.1 | exact hwa.1.2.2 | exact hsh.1.1 | exact hsh.1.2.1 | exact hhe.1.1 | exact hba.1.1 | exact hcc.1 | exact hH.1 | exact hsc.1.1 | exact hB4.1 | exact hSN.1 | exact hbd.1.1 | exact hr9 | assumption) (by first | assumption | exact hs.2.2.1 _ _ rfl | exact hfo.2.2.1 _ _ rfl | exact hwa.2.1.2.2.1 | exact hsh.2.1.2.1) rfl rfl jw_78 dX12_renderLine_42 rfl ?_
  refine jk_iload_n (q := 46) dX12_renderLine_45 rfl rfl ?_
  refine jk_ialdR (q := 47) (by first | exact hx0 | exact hs.1 | exact hs.2.1 _ _ rfl | exact hfo.1 | exact hfo.2.1 _ _ rfl | exact hwa.1.1 | exact hwa.1.2.1 | exact hwa.1.2.2 | exact hsh.1.1 | exact hsh.1.2.1 | exact hhe.1.1 | exact hba.1.1 | exact hcc.1 | exact hH.1 | exact hsc.1.1 | exact hB4.1 | exact hSN.1 | exact hbd.1.1 | exact hr9 | assumption) (by first | exact jk_row_same _ _ _ | ((repeat rewrite [jk_row_ne _ _ (by omega)]); first | exact jk_row_same _ _ _ | rfl)) (by first | assumption | decide | omega | exact jB_01 _ | exact jB_in _ | exact ⟨by omega, by omega⟩) dX12_renderLine_46 rfl ?_
  rw [(hr.2.2.1 p hp9).1]
  refine jk_cV1g (q := 50) (c_J4_append_bf812 (b := x + 578) hbd hz hzp (by omega) (by omega) (x := g (24 + p)) (by omega) (by simp only [List.length_append, List.length_cons, List.length_nil]; omega)) jm_J4_append_bf812 jw_1470 rfl (by first | exact hx0 | exact hs.1 | exact hs.2.1 _ _ rfl | exact hfo.1 | exact hfo.2.1 _ _ rfl | exact hwa.1.1 | exact hwa.1.2.1 | exact hwa.1.2.2 | exact hsh.1.1 | exact hsh.1.2.1 | exact hhe.1.1 | exact hba.1.1 | exact hcc.1 | exact hH.1 | exact hsc.1.1 | exact hB4.1 | exact hSN.1 | exact hbd.1.1 | exact hr9 | assumption) rfl rfl (by decide) (by decide) rfl dX12_renderLine_47 rfl (fun v' n5 t5 σ5 ρ5 hq => ?_) (fun _ _ _ _ _ h => h.elim)
  obtain ⟨rfl, w5, K5, hb9, -, hf9⟩ := hq
  simp only [Option.toList_some, Option.toList_none, List.cons_append, List.nil_append]
  have hst := rd_S i2.2 hn hv9 hst hb9 hf9
  obtain ⟨hbd, hwf, hln, hr, ho⟩ := id hst
  obtain ⟨hx0, ⟨hx1, hx2, hx3, hx4, hx5, hx6, hx7, hx8, hx9, hx10, hx11, hx12⟩, hB4, hSN, hH, hhe, hba, hch, hsc⟩ := id hln
  obtain ⟨hcc, hwa, hsh, hwy, hyc⟩ := id hch
  obtain ⟨-, -, hfo, hfw⟩ := id hwa
  obtain ⟨-, -, -, -, hs, hsf⟩ := id hfo
  have hwn := hwf.2.1
  have hnn9 := hwf.2.2.1
  refine jk_bipush (q := 52) (y := 62) dX12_renderLine_50 rfl (by decide) ?_
  refine jk_cV1g (q := 55) (c_J4_append_cf468 (b := x + 578) hbd hz hzp (by omega) (by omega) (c := 62) (by decide) (by simp only [List.length_append, List.length_cons, List.length_nil]; omega)) jm_J4_append_cf468 jw_1471 rfl (by first | exact hx0 | exact hs.1 | exact hs.2.1 _ _ rfl | exact hfo.1 | exact hfo.2.1 _ _ rfl | exact hwa.1.1 | exact hwa.1.2.1 | exact hwa.1.2.2 | exact hsh.1.1 | exact hsh.1.2.1 | exact hhe.1.1 | exact hba.1.1 | exact hcc.1 | exact hH.1 | exact hsc.1.1 | exact hB4.1 | exact hSN.1 | exact hbd.1.1 | exact hr9 | assumption) rfl rfl (by decide) (by decide) rfl dX12_renderLine_52 rfl (fun v' n6 t6 σ6 ρ6 hq => ?_) (fun _ _ _ _ _ h => h.elim)
  obtain ⟨rfl, w6, K6, hb9, -, hf9⟩ := hq
  simp only [Option.toList_some, Option.toList_none, List.cons_append, List.nil_append]
  have hst := rd_S i2.2 hn hv9 hst hb9 hf9
  obtain ⟨hbd, hwf, hln, hr, ho⟩ := id hst
  obtain ⟨hx0, ⟨hx1, hx2, hx3, hx4, hx5, hx6, hx7, hx8, hx9, hx10, hx11, hx12⟩, hB4, hSN, hH, hhe, hba, hch, hsc⟩ := id hln
  obtain ⟨hcc, hwa, hsh, hwy, hyc⟩ := id hch
  obtain ⟨-, -, hfo, hfw⟩ := id hwa
  obtain ⟨-, -, -, -, hs, hsf⟩ := id hfo
  have hwn := hwf.2.1
  have hnn9 := hwf.2.2.1
  refine jk_aload_n (q := 56) dX12_renderLine_55 rfl rfl ?_
  refine jk_getA (q := 59) (k := 12) 0 0 rfl (by first | exact hx0 | exact hs.1 | exact hs.2.1 _ _ rfl | exact hfo.1 | exact hfo.2.1 _ _ rfl | exact hwa.1.1 | exact hwa.1.2.1 | exact hwa.1.2.2 | exact hsh.1.1 | exact hsh.1.2.1 | exact hhe.1.1 | exact hba.1.1 | exact hcc.1 | exact hH.1 | exact hsc.1.1 | exact hB4.1 | exact hSN.1 | exact hbd.1.1 | exact hr9 | assumption) (by first | assumption | exact hs.2.2.1 _ _ rfl | exact hfo.2.2.1 _ _ rfl | exact hwa.2.1.2.2.1 | exact hsh.2.1.2.1) rfl rfl jw_375 dX12_renderLine_56 rfl ?_
  refine jk_getA (q := 62) (k := 9) 5 5 rfl (by first | exact hx0 | exact hs.1 | exact hs.2.1 _ _ rfl | exact hfo.1 | exact hfo.2.1 _ _ rfl | exact hwa.1.1 | exact hwa.1.2.1 | exact hwa.1.2.2 | exact hsh.1.1 | exact hsh.1.2.1 | exact hhe.1.1 | exact hba.1.1 | exact hcc.1 | exact hH.1 | exact hsc.1.1 | exact hB4.1 | exact hSN.1 | exact hbd.1.1 | exact hr9 | assumption) (by first | assumption | exact hs.2.2.1 _ _ rfl | exact hfo.2.2.1 _ _ rfl | exact hwa.2.1.2.2.1 | exact hsh.2.1.2.1) rfl rfl jw_84 dX12_renderLine_59 rfl ?_
  refine jk_iload_n (q := 63) dX12_renderLine_62 rfl rfl ?_
  refine jk_ialdR (q := 64) (by first | exact hx0 | exact hs.1 | exact hs.2.1 _ _ rfl | exact hfo.1 | exact hfo.2.1 _ _ rfl | exact hwa.1.1 | exact hwa.1.2.1 | exact hwa.1.2.2 | exact hsh.1.1 | exact hsh.1.2.1 | exact hhe.1.1 | exact hba.1.1 | exact hcc.1 | exact hH.1 | exact hsc.1.1 | exact hB4.1 | exact hSN.1 | exact hbd.1.1 | exact hr9 | assumption) (by first | exact jk_row_same _ _ _ | ((repeat rewrite [jk_row_ne _ _ (by omega)]); first | exact jk_row_same _ _ _ | rfl)) (by first | assumption | decide | omega | exact jB_01 _ | exact jB_in _ | exact ⟨by omega, by omega⟩) dX12_renderLine_63 rfl ?_
  rw [(hr.2.2.1 p hp9).2.1]
  refine jk_cV1g (q := 67) (c_J4_append_bf812 (b := x + 578) hbd hz hzp (by omega) (by omega) (x := g (40 + p)) (by omega) (by simp only [List.length_append, List.length_cons, List.length_nil]; omega)) jm_J4_append_bf812 jw_1470 rfl (by first | exact hx0 | exact hs.1 | exact hs.2.1 _ _ rfl | exact hfo.1 | exact hfo.2.1 _ _ rfl | exact hwa.1.1 | exact hwa.1.2.1 | exact hwa.1.2.2 | exact hsh.1.1 | exact hsh.1.2.1 | exact hhe.1.1 | exact hba.1.1 | exact hcc.1 | exact hH.1 | exact hsc.1.1 | exact hB4.1 | exact hSN.1 | exact hbd.1.1 | exact hr9 | assumption) rfl rfl (by decide) (by decide) rfl dX12_renderLine_64 rfl (fun v' n7 t7 σ7 ρ7 hq => ?_) (fun _ _ _ _ _ h => h.elim)
  obtain ⟨rfl, w7, K7, hb9, -, hf9⟩ := hq
  simp only [Option.toList_some, Option.toList_none, List.cons_append, List.nil_append]
  have hst := rd_S i2.2 hn hv9 hst hb9 hf9
  obtain ⟨hbd, hwf, hln, hr, ho⟩ := id hst
  obtain ⟨hx0, ⟨hx1, hx2, hx3, hx4, hx5, hx6, hx7, hx8, hx9, hx10, hx11, hx12⟩, hB4, hSN, hH, hhe, hba, hch, hsc⟩ := id hln
  obtain ⟨hcc, hwa, hsh, hwy, hyc⟩ := id hch
  obtain ⟨-, -, hfo, hfw⟩ := id hwa
  obtain ⟨-, -, -, -, hs, hsf⟩ := id hfo
  have hwn := hwf.2.1
  have hnn9 := hwf.2.2.1
  refine jk_pop (q := 68) dX12_renderLine_67 rfl rfl ?_
  refine jk_aload_n (q := 69) dX12_renderLine_68 rfl rfl ?_
  refine jk_getA (q := 72) (k := 12) 12 12 rfl (by first | exact hx0 | exact hs.1 | exact hs.2.1 _ _ rfl | exact hfo.1 | exact hfo.2.1 _ _ rfl | exact hwa.1.1 | exact hwa.1.2.1 | exact hwa.1.2.2 | exact hsh.1.1 | exact hsh.1.2.1 | exact hhe.1.1 | exact hba.1.1 | exact hcc.1 | exact hH.1 | exact hsc.1.1 | exact hB4.1 | exact hSN.1 | exact hbd.1.1 | exact hr9 | assumption) (by first | assumption | exact hs.2.2.1 _ _ rfl | exact hfo.2.2.1 _ _ rfl | exact hwa.2.1.2.2.1 | exact hsh.2.1.2.1) rfl rfl jw_387 dX12_renderLine_69 rfl ?_
  refine jk_bipush (q := 74) (y := 32) dX12_renderLine_72 rfl (by decide) ?_
  refine jk_cV1g (q := 77) (c_J4_append_cf468 (b := x + 578) hbd hz hzp (by omega) (by omega) (c := 32) (by decide) (by simp only [List.length_append, List.length_cons, List.length_nil]; omega)) jm_J4_append_cf468 jw_1471 rfl (by first | exact hx0 | exact hs.1 | exact hs.2.1 _ _ rfl | exact hfo.1 | exact hfo.2.1 _ _ rfl | exact hwa.1.1 | exact hwa.1.2.1 | exact hwa.1.2.2 | exact hsh.1.1 | exact hsh.1.2.1 | exact hhe.1.1 | exact hba.1.1 | exact hcc.1 | exact hH.1 | exact hsc.1.1 | exact hB4.1 | exact hSN.1 | exact hbd.1.1 | exact hr9 | assumption) rfl rfl (by decide) (by decide) rfl dX12_renderLine_74 rfl (fun v' n8 t8 σ8 ρ8 hq => ?_) (fun _ _ _ _ _ h => h.elim)
  obtain ⟨rfl, w8, K8, hb9, -, hf9⟩ := hq
  simp only [Option.toList_some, Option.toList_none, List.cons_append, List.nil_append]
  have hst := rd_S i2.2 hn hv9 hst hb9 hf9
  obtain ⟨hbd, hwf, hln, hr, ho⟩ := id hst
  obtain ⟨hx0, ⟨hx1, hx2, hx3, hx4, hx5, hx6, hx7, hx8, hx9, hx10, hx11, hx12⟩, hB4, hSN, hH, hhe, hba, hch, hsc⟩ := id hln
  obtain ⟨hcc, hwa, hsh, hwy, hyc⟩ := id hch
  obtain ⟨-, -, hfo, hfw⟩ := id hwa
  obtain ⟨-, -, -, -, hs, hsf⟩ := id hfo
  have hwn := hwf.2.1
  have hnn9 := hwf.2.2.1
  refine jk_aload_n (q := 78) dX12_renderLine_77 rfl rfl ?_
  refine jk_getA (q := 81) (k := 12) 0 0 rfl (by first | exact hx0 | exact hs.1 | exact hs.2.1 _ _ rfl | exact hfo.1 | exact hfo.2.1 _ _ rfl | exact hwa.1.1 | exact hwa.1.2.1 | exact hwa.1.2.2 | exact hsh.1.1 | exact hsh.1.2.1 | exact hhe.1.1 | exact hba.1.1 | exact hcc.1 | exact hH.1 | exact hsc.1.1 | exact hB4.1 | exact hSN.1 | exact hbd.1.1 | exact hr9 | assumption) (by first | assumption | exact hs.2.2.1 _ _ rfl | exact hfo.2.2.1 _ _ rfl | exact hwa.2.1.2.2.1 | exact hsh.2.1.2.1) rfl rfl jw_375 dX12_renderLine_78 rfl ?_
  refine jk_iload_n (q := 82) dX12_renderLine_81 rfl rfl ?_
  refine jk_cV1p (q := 85) (c_X9_corrected hs hr hi hp9) jm_X9_corrected jw_1493 rfl (by first | exact hx0 | exact hs.1 | exact hs.2.1 _ _ rfl | exact hfo.1 | exact hfo.2.1 _ _ rfl | exact hwa.1.1 | exact hwa.1.2.1 | exact hwa.1.2.2 | exact hsh.1.1 | exact hsh.1.2.1 | exact hhe.1.1 | exact hba.1.1 | exact hcc.1 | exact hH.1 | exact hsc.1.1 | exact hB4.1 | exact hSN.1 | exact hbd.1.1 | exact hr9 | assumption) rfl rfl rfl dX12_renderLine_82 rfl ?_
  refine jk_cV1g (q := 88) (c_J4_append_bf812 (b := x + 578) hbd hz hzp (by omega) (by omega) (x := md_cor g p) (by omega) (by simp only [List.length_append, List.length_cons, List.length_nil]; omega)) jm_J4_append_bf812 jw_1470 rfl (by first | exact hx0 | exact hs.1 | exact hs.2.1 _ _ rfl | exact hfo.1 | exact hfo.2.1 _ _ rfl | exact hwa.1.1 | exact hwa.1.2.1 | exact hwa.1.2.2 | exact hsh.1.1 | exact hsh.1.2.1 | exact hhe.1.1 | exact hba.1.1 | exact hcc.1 | exact hH.1 | exact hsc.1.1 | exact hB4.1 | exact hSN.1 | exact hbd.1.1 | exact hr9 | assumption) rfl rfl (by decide) (by decide) rfl dX12_renderLine_85 rfl (fun v' n9 t9 σ9 ρ9 hq => ?_) (fun _ _ _ _ _ h => h.elim)
  obtain ⟨rfl, w9, K9, hb9, -, hf9⟩ := hq
  simp only [Option.toList_some, Option.toList_none, List.cons_append, List.nil_append]
  have hst := rd_S i2.2 hn hv9 hst hb9 hf9
  obtain ⟨hbd, hwf, hln, hr, ho⟩ := id hst
  obtain ⟨hx0, ⟨hx1, hx2, hx3, hx4, hx5, hx6, hx7, hx8, hx9, hx10, hx11, hx12⟩, hB4, hSN, hH, hhe, hba, hch, hsc⟩ := id hln
  obtain ⟨hcc, hwa, hsh, hwy, hyc⟩ := id hch
  obtain ⟨-, -, hfo, hfw⟩ := id hwa
  obtain ⟨-, -, -, -, hs, hsf⟩ := id hfo
  have hwn := hwf.2.1
  have hnn9 := hwf.2.2.1
  refine jk_pop (q := 89) dX12_renderLine_88 rfl rfl ?_
  refine jk_aload_n (q := 90) dX12_renderLine_89 rfl rfl ?_
  refine jk_getA (q := 93) (k := 12) 12 12 rfl (by first | exact hx0 | exact hs.1 | exact hs.2.1 _ _ rfl | exact hfo.1 | exact hfo.2.1 _ _ rfl | exact hwa.1.1 | exact hwa.1.2.1 | exact hwa.1.2.2 | exact hsh.1.1 | exact hsh.1.2.1 | exact hhe.1.1 | exact hba.1.1 | exact hcc.1 | exact hH.1 | exact hsc.1.1 | exact hB4.1 | exact hSN.1 | exact hbd.1.1 | exact hr9 | assumption) (by first | assumption | exact hs.2.2.1 _ _ rfl | exact hfo.2.2.1 _ _ rfl | exact hwa.2.1.2.2.1 | exact hsh.2.1.2.1) rfl rfl jw_387 dX12_renderLine_90 rfl ?_
  refine jk_bipush (q := 95) (y := 47) dX12_renderLine_93 rfl (by decide) ?_
  refine jk_cV1g (q := 98) (c_J4_append_cf468 (b := x + 578) hbd hz hzp (by omega) (by omega) (c := 47) (by decide) (by simp only [List.length_append, List.length_cons, List.length_nil]; omega)) jm_J4_append_cf468 jw_1471 rfl (by first | exact hx0 | exact hs.1 | exact hs.2.1 _ _ rfl | exact hfo.1 | exact hfo.2.1 _ _ rfl | exact hwa.1.1 | exact hwa.1.2.1 | exact hwa.1.2.2 | exact hsh.1.1 | exact hsh.1.2.1 | exact hhe.1.1 | exact hba.1.1 | exact hcc.1 | exact hH.1 | exact hsc.1.1 | exact hB4.1 | exact hSN.1 | exact hbd.1.1 | exact hr9 | assumption) rfl rfl (by decide) (by decide) rfl dX12_renderLine_95 rfl (fun v' n10 t10 σ10 ρ10 hq => ?_) (fun _ _ _ _ _ h => h.elim)
  obtain ⟨rfl, w10, K10, hb9, -, hf9⟩ := hq
  simp only [Option.toList_some, Option.toList_none, List.cons_append, List.nil_append]
  have hst := rd_S i2.2 hn hv9 hst hb9 hf9
  obtain ⟨hbd, hwf, hln, hr, ho⟩ := id hst
  obtain ⟨hx0, ⟨hx1, hx2, hx3, hx4, hx5, hx6, hx7, hx8, hx9, hx10, hx11, hx12⟩, hB4, hSN, hH, hhe, hba, hch, hsc⟩ := id hln
  obtain ⟨hcc, hwa, hsh, hwy, hyc⟩ := id hch
  obtain ⟨-, -, hfo, hfw⟩ := id hwa
  obtain ⟨-, -, -, -, hs, hsf⟩ := id hfo
  have hwn := hwf.2.1
  have hnn9 := hwf.2.2.1
  refine jk_aload_n (q := 99) dX12_renderLine_98 rfl rfl ?_
  refine jk_getA (q := 102) (k := 12) 0 0 rfl (by first | exact hx0 | exact hs.1 | exact hs.2.1 _ _ rfl | exact hfo.1 | exact hfo.2.1 _ _ rfl | exact hwa.1.1 | exact hwa.1.2.1 | exact hwa.1.2.2 | exact hsh.1.1 | exact hsh.1.2.1 | exact hhe.1.1 | exact hba.1.1 | exact hcc.1 | exact hH.1 | exact hsc.1.1 | exact hB4.1 | exact hSN.1 | exact hbd.1.1 | exact hr9 | assumption) (by first | assumption | exact hs.2.2.1 _ _ rfl | exact hfo.2.2.1 _ _ rfl | exact hwa.2.1.2.2.1 | exact hsh.2.1.2.1) rfl rfl jw_375 dX12_renderLine_99 rfl ?_
  refine jk_getA (q := 105) (k := 9) 6 6 rfl (by first | exact hx0 | exact hs.1 | exact hs.2.1 _ _ rfl | exact hfo.1 | exact hfo.2.1 _ _ rfl | exact hwa.1.1 | exact hwa.1.2.1 | exact hwa.1.2.2 | exact hsh.1.1 | exact hsh.1.2.1 | exact hhe.1.1 | exact hba.1.1 | exact hcc.1 | exact hH.1 | exact hsc.1.1 | exact hB4.1 | exact hSN.1 | exact hbd.1.1 | exact hr9 | assumption) (by first | assumption | exact hs.2.2.1 _ _ rfl | exact hfo.2.2.1 _ _ rfl | exact hwa.2.1.2.2.1 | exact hsh.2.1.2.1) rfl rfl jw_90 dX12_renderLine_102 rfl ?_
  refine jk_iload_n (q := 106) dX12_renderLine_105 rfl rfl ?_
  refine jk_ialdR (q := 107) (by first | exact hx0 | exact hs.1 | exact hs.2.1 _ _ rfl | exact hfo.1 | exact hfo.2.1 _ _ rfl | exact hwa.1.1 | exact hwa.1.2.1 | exact hwa.1.2.2 | exact hsh.1.1 | exact hsh.1.2.1 | exact hhe.1.1 | exact hba.1.1 | exact hcc.1 | exact hH.1 | exact hsc.1.1 | exact hB4.1 | exact hSN.1 | exact hbd.1.1 | exact hr9 | assumption) (by first | exact jk_row_same _ _ _ | ((repeat rewrite [jk_row_ne _ _ (by omega)]); first | exact jk_row_same _ _ _ | rfl)) (by first | assumption | decide | omega | exact jB_01 _ | exact jB_in _ | exact ⟨by omega, by omega⟩) dX12_renderLine_106 rfl ?_
  rw [(hr.2.2.1 p hp9).2.2.1]
  refine jk_cV1g (q := 110) (c_J4_append_bf812 (b := x + 578) hbd hz hzp (by omega) (by omega) (x := g (56 + p)) (by omega) (by simp only [List.length_append, List.length_cons, List.length_nil]; omega)) jm_J4_append_bf812 jw_1470 rfl (by first | exact hx0 | exact hs.1 | exact hs.2.1 _ _ rfl | exact hfo.1 | exact hfo.2.1 _ _ rfl | exact hwa.1.1 | exact hwa.1.2.1 | exact hwa.1.2.2 | exact hsh.1.1 | exact hsh.1.2.1 | exact hhe.1.1 | exact hba.1.1 | exact hcc.1 | exact hH.1 | exact hsc.1.1 | exact hB4.1 | exact hSN.1 | exact hbd.1.1 | exact hr9 | assumption) rfl rfl (by decide) (by decide) rfl dX12_renderLine_107 rfl (fun v' n11 t11 σ11 ρ11 hq => ?_) (fun _ _ _ _ _ h => h.elim)
  obtain ⟨rfl, w11, K11, hb9, -, hf9⟩ := hq
  simp only [Option.toList_some, Option.toList_none, List.cons_append, List.nil_append]
  have hst := rd_S i2.2 hn hv9 hst hb9 hf9
  obtain ⟨hbd, hwf, hln, hr, ho⟩ := id hst
  obtain ⟨hx0, ⟨hx1, hx2, hx3, hx4, hx5, hx6, hx7, hx8, hx9, hx10, hx11, hx12⟩, hB4, hSN, hH, hhe, hba, hch, hsc⟩ := id hln
  obtain ⟨hcc, hwa, hsh, hwy, hyc⟩ := id hch
  obtain ⟨-, -, hfo, hfw⟩ := id hwa
  obtain ⟨-, -, -, -, hs, hsf⟩ := id hfo
  have hwn := hwf.2.1
  have hnn9 := hwf.2.2.1
  refine jk_pop (q := 111) dX12_renderLine_110 rfl rfl ?_
  refine jk_aload_n (q := 112) dX12_renderLine_111 rfl rfl ?_
  refine jk_getA (q := 115) (k := 12) 12 12 rfl (by first | exact hx0 | exact hs.1 | exact hs.2.1 _ _ rfl | exact hfo.1 | exact hfo.2.1 _ _ rfl | exact hwa.1.1 | exact hwa.1.2.1 | exact hwa.1.2.2 | exact hsh.1.1 | exact hsh.1.2.1 | exact hhe.1.1 | exact hba.1.1 | exact hcc.1 | exact hH.1 | exact hsc.1.1 | exact hB4.1 | exact hSN.1 | exact hbd.1.1 | exact hr9 | assumption) (by first | assumption | exact hs.2.2.1 _ _ rfl | exact hfo.2.2.1 _ _ rfl | exact hwa.2.1.2.2.1 | exact hsh.2.1.2.1) rfl rfl jw_387 dX12_renderLine_112 rfl ?_
  refine jk_aload_n (q := 116) dX12_renderLine_115 rfl rfl ?_
  refine jk_iload_n (q := 117) dX12_renderLine_116 rfl rfl ?_
  refine jk_cV1p (q := 120) (c_X12_markOf hz hx hln hr ha (cl_nn_same (fun q hq => hwf.2.2.2.2.2 _ (by omega) (by omega) (by omega) (by omega)) hnn) hsi hp9 ho) jm_X12_markOf jw_1494 rfl (by first | exact hx0 | exact hs.1 | exact hs.2.1 _ _ rfl | exact hfo.1 | exact hfo.2.1 _ _ rfl | exact hwa.1.1 | exact hwa.1.2.1 | exact hwa.1.2.2 | exact hsh.1.1 | exact hsh.1.2.1 | exact hhe.1.1 | exact hba.1.1 | exact hcc.1 | exact hH.1 | exact hsc.1.1 | exact hB4.1 | exact hSN.1 | exact hbd.1.1 | exact hr9 | assumption) rfl rfl rfl dX12_renderLine_117 rfl ?_
  refine jk_cV1g (q := 123) (c_J4_append_cf468 (b := x + 578) hbd hz hzp (by omega) (by omega) (c := md_mk g p) (by unfold md_mk; split; decide; split <;> decide) (by simp only [List.length_append, List.length_cons, List.length_nil]; omega)) jm_J4_append_cf468 jw_1471 rfl (by first | exact hx0 | exact hs.1 | exact hs.2.1 _ _ rfl | exact hfo.1 | exact hfo.2.1 _ _ rfl | exact hwa.1.1 | exact hwa.1.2.1 | exact hwa.1.2.2 | exact hsh.1.1 | exact hsh.1.2.1 | exact hhe.1.1 | exact hba.1.1 | exact hcc.1 | exact hH.1 | exact hsc.1.1 | exact hB4.1 | exact hSN.1 | exact hbd.1.1 | exact hr9 | assumption) rfl rfl (by decide) (by decide) rfl dX12_renderLine_120 rfl (fun v' n12 t12 σ12 ρ12 hq => ?_) (fun _ _ _ _ _ h => h.elim)
  obtain ⟨rfl, w12, K12, hb9, -, hf9⟩ := hq
  simp only [Option.toList_some, Option.toList_none, List.cons_append, List.nil_append]
  have hst := rd_S i2.2 hn hv9 hst hb9 hf9
  obtain ⟨hbd, hwf, hln, hr, ho⟩ := id hst
  obtain ⟨hx0, ⟨hx1, hx2, hx3, hx4, hx5, hx6, hx7, hx8, hx9, hx10, hx11, hx12⟩, hB4, hSN, hH, hhe, hba, hch, hsc⟩ := id hln
  obtain ⟨hcc, hwa, hsh, hwy, hyc⟩ := id hch
  obtain ⟨-, -, hfo, hfw⟩ := id hwa
  obtain ⟨-, -, -, -, hs, hsf⟩ := id hfo
  have hwn := hwf.2.1
  have hnn9 := hwf.2.2.1
  refine jk_pop (q := 124) dX12_renderLine_123 rfl rfl ?_
  refine jk_aload_n (q := 125) dX12_renderLine_124 rfl rfl ?_
  refine jk_getA (q := 128) (k := 12) 12 12 rfl (by first | exact hx0 | exact hs.1 | exact hs.2.1 _ _ rfl | exact hfo.1 | exact hfo.2.1 _ _ rfl | exact hwa.1.1 | exact hwa.1.2.1 | exact hwa.1.2.2 | exact hsh.1.1 | exact hsh.1.2.1 | exact hhe.1.1 | exact hba.1.1 | exact hcc.1 | exact hH.1 | exact hsc.1.1 | exact hB4.1 | exact hSN.1 | exact hbd.1.1 | exact hr9 | assumption) (by first | assumption | exact hs.2.2.1 _ _ rfl | exact hfo.2.2.1 _ _ rfl | exact hwa.2.1.2.2.1 | exact hsh.2.1.2.1) rfl rfl jw_387 dX12_renderLine_125 rfl ?_
  refine jk_cV0p (q := 131) (c_J4_length_8abf5 hbd) jm_J4_length_8abf5 jw_1498 rfl (by first | exact hx0 | exact hs.1 | exact hs.2.1 _ _ rfl | exact hfo.1 | exact hfo.2.1 _ _ rfl | exact hwa.1.1 | exact hwa.1.2.1 | exact hwa.1.2.2 | exact hsh.1.1 | exact hsh.1.2.1 | exact hhe.1.1 | exact hba.1.1 | exact hcc.1 | exact hH.1 | exact hsc.1.1 | exact hB4.1 | exact hSN.1 | exact hbd.1.1 | exact hr9 | assumption) rfl rfl rfl dX12_renderLine_128 rfl ?_
  exact jk_iret rfl dX12_renderLine_131 (by 
          have e9 : [] ++ md_dgs p ++ [58] ++ md_dgs (g (24 + p)) ++ [62] ++ md_dgs (g (40 + p)) ++ [32] ++ md_dgs (md_cor g p) ++ [47] ++ md_dgs (g (56 + p)) ++ [md_mk g p] = md_rnl g p := by
            unfold md_rnl md_mk
            simp only [List.nil_append, List.append_assoc, List.cons_append]
          rw [e9] at hbd ⊢
          exact ⟨zr, rfl, _, _, hbd, hwf⟩)
end R2
