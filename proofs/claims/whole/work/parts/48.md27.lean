section MD27
theorem md_like_shS {B : Int} {g : Int → Int} (hi : md_inv B g) {m : Nat} {σ : jk_I} (hz : md_z σ m) (hz1 : md_z10 σ m) (hJ : md_loops g) (l : Int) : md_like m σ (md_shS σ m g l) := by
  unfold md_shS
  split
  · exact md_like_why hi hz hz1 hJ l
  · rename_i h
    obtain ⟨h1, h2, h3⟩ := md_why0 (σ := σ) (m := m) h
    have h4 := md_inT h2
    have hg1 := hi.2.1
    obtain ⟨J, h5⟩ := hJ l ⟨by omega, by omega⟩ h3
    have h6 := md_like_lp hi hz hz1 (l := l) ⟨by omega, by omega⟩ h5
    split
    · exact h6
    · exact md_like_row h6 rfl (fun p hp => if_neg (by omega))
theorem md_like_doS {B : Int} {g P : Int → Int} (hi : md_inv B g) {m : Nat} {σ : jk_I} (hz : md_z σ m) (hz1 : md_z10 σ m) (hJ : md_loops g) (k : Int) : md_like m σ (md_doS σ m g P k) := by
  unfold md_doS
  split
  · exact md_like_shS hi hz hz1 hJ _
  · exact md_like_rf hz hz1
theorem md_do_ok {B : Int} {g P : Int → Int} (hi : md_inv B g) (hz : md_zf 240 g) (k : Int) : md_rok (md_do P k g) := by
  unfold md_do
  (repeat' split)
  · exact md_addsRun_ok hi hz
  · exact md_marks_ok hi hz
  · exact md_fixes_ok hi hz
  · exact md_shares_ok hi hz
  · exact md_marks_ok hi hz
  · exact md_addsLine_ok hi hz
  · exact md_addsProfile_ok hi hz
  · exact md_addsPoint_ok hi hz
  · exact md_resets_ok hi hz
  · exact md_addsStation_ok hi hz
  · exact md_releases_ok hi hz
  · exact md_setsWater_ok hi hz
def md_cf (Bf : Int → Int) (ty : Int) (P0 : Int → Int) : Nat → Nat → Nat
  | 0, j => j
  | f + 1, j => if (md_sn Bf ty P0 j).2 = false then j else md_cf Bf ty P0 f (j + 1)
/-- how many commands were read -/
def md_cn (Bf : Int → Int) (ty : Int) (P0 : Int → Int) : Nat := md_cf Bf ty P0 40 0
def md_gk (P g : Int → Int) : Nat → Int → Int
  | 0 => g
  | k + 1 => (md_do P (5 * (k : Int)) (md_gk P g k)).2.2
def md_fP (P g : Int → Int) : Int → Bool := fun k => decide ((md_do P (5 * k) (md_gk P g k.toNat)).1 ≠ 0)
def md_x (Bf : Int → Int) (ty : Int) (P0 : Int → Int) : md_TR := (md_sn Bf ty P0 (md_cn Bf ty P0)).1
def md_w2 (Bf : Int → Int) (ty : Int) (P0 : Int → Int) : Bool := (md_x Bf ty P0).1.2 || decide ((md_x Bf ty P0).1.1 < ty)
def md_ff (Bf : Int → Int) (ty : Int) (P0 g : Int → Int) : Int := jk_fnd (md_fP (md_x Bf ty P0).2 g) (md_cn Bf ty P0)
def md_O2 (O : Int → Int) (sp : Int) (w : Bool) : Int → Int := jk_set (jk_set (jk_set O 20 sp) 21 (jB w)) 7 0
/-- what runScript leaves: answer, fields, state, copy, history -/
def md_rs5 (O g b h Bf : Int → Int) (ty : Int) (P0 : Int → Int) : Int × (Int → Int) × (Int → Int) × (Int → Int) × (Int → Int) :=
  if md_w2 Bf ty P0 = true then (0, jk_set (jk_set (md_O2 O (md_x Bf ty P0).1.1 (md_w2 Bf ty P0)) 8 (md_x Bf ty P0).1.1) 12 1, g, b, h) else
  if md_ff Bf ty P0 g = -1 then ((md_cn Bf ty P0 : Nat), jk_set (jk_set (md_O2 O (md_x Bf ty P0).1.1 (md_w2 Bf ty P0)) 12 0) 3 (md_c2 (O 3)), md_gk (md_x Bf ty P0).2 g (md_cn Bf ty P0), g, md_h2 h (O 3) g) else
  (0, jk_set (jk_set (md_O2 O (md_x Bf ty P0).1.1 (md_w2 Bf ty P0)) 9 (md_ff Bf ty P0 g)) 12 2, g, g, h)
def md_rQ (m : Nat) (σ : jk_I) (n : Nat) (t : jk_T) (ρ : jk_P) (P : Int → Int) (r : Int × (Int → Int) × (Int → Int) × (Int → Int) × (Int → Int)) : jk_Q := fun v' n' t' σ' ρ' =>
  v' = some (jI r.1) ∧ n' = n ∧ t' = t ∧ ρ' = ρ ∧ σ' m = r.2.1 ∧ σ' (m + 2) = r.2.2.1 ∧ σ' (m + 4) = r.2.2.2.1 ∧ σ' (m + 6) = r.2.2.2.2 ∧ σ' (m + 28) = P ∧
  (∀ a, ¬ md_scr m a → a ≠ m → a ≠ m + 2 → a ≠ m + 4 → a ≠ m + 6 → a ≠ m + 28 → σ' a = σ a) ∧ md_z σ' m ∧ md_z10 σ' m
theorem md_rq {m : Nat} {σ σ' : jk_I} {n : Nat} {t : jk_T} {ρ : jk_P} {P : Int → Int} {r : Int × (Int → Int) × (Int → Int) × (Int → Int) × (Int → Int)} {v : Int} {O' g' b' h' : Int → Int} (hr : r = (v, O', g', b', h')) (h1 : σ' m = O') (h2 : σ' (m + 2) = g') (h3 : σ' (m + 4) = b') (h4 : σ' (m + 6) = h') (h5 : σ' (m + 28) = P)
    (h6 : ∀ a, ¬ md_scr m a → a ≠ m → a ≠ m + 2 → a ≠ m + 4 → a ≠ m + 6 → a ≠ m + 28 → σ' a = σ a) (h7 : md_z σ' m) (h8 : md_z10 σ' m) : md_rQ m σ n t ρ P r (some (jI v)) n t σ' ρ := by
  subst hr; exact ⟨rfl, rfl, rfl, rfl, h1, h2, h3, h4, h5, h6, h7, h8⟩
theorem md_O2_at (O : Int → Int) (sp : Int) (w : Bool) : md_O2 O sp w 3 = O 3 ∧ md_O2 O sp w 20 = sp ∧ md_O2 O sp w 21 = jB w := by
  unfold md_O2
  refine ⟨?_, ?_, ?_⟩
  · rw [jk_set_ne _ _ (by decide), jk_set_ne _ _ (by decide), jk_set_ne _ _ (by decide)]
  · rw [jk_set_ne _ _ (by decide), jk_set_ne _ _ (by decide), jk_set_at]
  · rw [jk_set_ne _ _ (by decide), jk_set_at]
theorem md_O2_w (O : Int → Int) (sp : Int) (w : Bool) : jk_set (jk_set (jk_set O 20 sp) 21 (jB w)) 7 0 = md_O2 O sp w := rfl
theorem md_s92 (r : Int → Int) (c d k : Int) : jk_set (jk_set (jk_set (jk_set r 12 c) 12 d) 9 k) 12 2 = jk_set (jk_set r 9 k) 12 2 := by
  funext j
  unfold jk_set
  by_cases h1 : j = 12 <;> by_cases h2 : j = 9 <;> simp [h1, h2]
theorem md_set_self (r : Int → Int) (i : Int) : jk_set r i (r i) = r := by
  funext j; unfold jk_set; split
  · rename_i h; rw [h]
  · rfl
theorem md_kp_f {σ : jk_I} {m : Nat} {O h b : Int → Int} (hc : O 12 ≠ 0) : md_kp σ m O h b = jk_row σ (m + 2) b := if_neg hc
theorem md_kp_t {σ : jk_I} {m : Nat} {O h b : Int → Int} (hc : O 12 = 0) : md_kp σ m O h b = jk_row (jk_row σ (m + 6) (md_h2 h (O 3) b)) m (jk_set O 3 (md_c2 (O 3))) := if_pos hc
theorem c_X13_runScript {G : jk_G} {n : Nat} {t : jk_T} {σ : jk_I} {ρ : jk_P} {m : Nat} {g O b h Bf P0 : Int → Int} {B ty : Int} (hm : md_at t ρ m) (hg : σ (m + 2) = g) (ho : σ m = O) (hb : σ (m + 10) = Bf) (hB : ∀ j, 0 ≤ j ∧ j < 60 → 0 ≤ Bf j ∧ Bf j < 65536) (hty : O 7 = ty) (hty2 : 0 ≤ ty ∧ ty ≤ 60) (hP : σ (m + 28) = P0) (hPb : md_pb P0) (hb4 : σ (m + 4) = b) (hgz : md_zf 240 g) (hbz : md_zf 240 b) (hh : σ (m + 6) = h) (ho3 : 0 ≤ O 3 ∧ O 3 ≤ 8) (hz : md_z σ m) (hz1 : md_z10 σ m) (hall : ∀ P, md_pb P → ∀ k : Nat, k ≤ 31 → md_inv B (md_gk P g k) ∧ md_inw (md_gk P g k) ∧ md_loops (md_gk P g k) ∧ md_zf 240 (md_gk P g k)) : jk_K G yX13_runScript mX13_runScript 0 0 [.ref m] n t σ ρ (md_rQ m σ n t ρ (md_x Bf ty P0).2 (md_rs5 O g b h Bf ty P0)) jk_no := by
  refine jk_entryB (ls := [some (.ref m), none, none, none, none]) jm_X13_runScript.1 rfl rfl rfl ?_
  refine jk_aload_n (q := 1) dX13_runScript_0 rfl rfl ?_
  refine jk_iconst (q := 2) dX13_runScript_1 rfl ?_
  refine jk_putIR (q := 5) (k := 13) 20 20 rfl (by first | exact hm.1 | exact hm.2.1 _ _ rfl | assumption) (by first | exact jk_row_same _ _ _ | exact ho | (rewrite [jk_row_ne _ _ (by omega)]; first | exact jk_row_same _ _ _ | exact ho | (rewrite [jk_row_ne _ _ (by omega)]; first | exact jk_row_same _ _ _ | exact ho | (rewrite [jk_row_ne _ _ (by omega)]; first | exact jk_row_same _ _ _ | exact ho | (rewrite [jk_row_ne _ _ (by omega)]; first | exact ho | rfl))))) rfl rfl rfl jw_1868 dX13_runScript_2 rfl ?_
  skip
  refine jk_aload_n (q := 6) dX13_runScript_5 rfl rfl ?_
  refine jk_iconst (q := 7) dX13_runScript_6 rfl ?_
  refine jk_putZR (q := 10) (k := 13) 21 21 rfl (by first | exact hm.1 | exact hm.2.1 _ _ rfl | assumption) (by first | exact jk_row_same _ _ _ | exact ho | (rewrite [jk_row_ne _ _ (by omega)]; first | exact jk_row_same _ _ _ | exact ho | (rewrite [jk_row_ne _ _ (by omega)]; first | exact jk_row_same _ _ _ | exact ho | (rewrite [jk_row_ne _ _ (by omega)]; first | exact jk_row_same _ _ _ | exact ho | (rewrite [jk_row_ne _ _ (by omega)]; first | exact ho | rfl))))) rfl rfl rfl (by first | assumption | decide | omega | exact jB_01 _ | exact jB_in _) jw_1869 dX13_runScript_7 rfl ?_
  skip
  rw [show jk_row (jk_row σ m (jk_set O 20 0)) m (jk_set (jk_set O 20 0) 21 0) = md_pS σ m O 0 false P0 by unfold md_pS; rw [jk_row_row, jk_row_id hP]; rfl]
  refine jk_iconst (q := 11) dX13_runScript_10 rfl ?_
  refine jk_istore1 (q := 12) dX13_runScript_11 rfl rfl rfl ?_
  refine jk_iconst (q := 13) dX13_runScript_12 rfl ?_
  refine jk_istore2 (q := 14) dX13_runScript_13 rfl rfl rfl ?_
  have L14 : ∀ k14 : Nat, k14 ≤ 31 → ∀ (mo : Bool), (hmo : mo = (md_sn Bf ty P0 k14).2) → (hearly : ∀ i, i < k14 → (md_sn Bf ty P0 i).2 = true) → (hcf : md_cf Bf ty P0 (40 - k14) k14 = md_cf Bf ty P0 40 0) → jk_J G mX13_runScript 14 [some (.ref m), some (jI (k14 : Int)), some (jI (jB mo)), none, none] [] n t (md_pS σ m O (md_sn Bf ty P0 k14).1.1.1 (md_sn Bf ty P0 k14).1.1.2 (md_sn Bf ty P0 k14).1.2) ρ 0 0 (md_rQ m σ n t ρ (md_x Bf ty P0).2 (md_rs5 O g b h Bf ty P0)) jk_no := by
    refine jk_loop _ (fun k14 hk14 ih14 => ?_)
    intro mo hmo hearly hcf
    have hsn := md_sn_ok hB hty2 hPb k14
    refine jk_iload_n (q := 15) dX13_runScript_14 rfl rfl ?_
    refine jk_ifB_eq (q := 71) (q2 := 18) dX13_runScript_15 rfl rfl (fun h1 => ?_) (fun h1 => ?_)
    · have hN : (md_cn Bf ty P0) = k14 := by
        unfold md_cn; rw [← hcf, show 40 - k14 = (39 - k14) + 1 by omega]; unfold md_cf; rw [if_pos (hmo ▸ (by assumption))]
      have hx : (md_sn Bf ty P0 k14).1 = (md_x Bf ty P0) := by unfold md_x; rw [hN]
      rw [hx]
      have hxs : md_sok ty (md_x Bf ty P0).1.1 := hx ▸ hsn.1
      have hxi : jk_in (md_x Bf ty P0).1.1 := ⟨by have := hxs.1; omega, by have := hxs.2; omega⟩
      have htyi : jk_in ty := ⟨by omega, by omega⟩
      have hxp : md_pb (md_x Bf ty P0).2 := hx ▸ hsn.2
      refine jk_aload_n (q := 72) dX13_runScript_71 rfl rfl ?_
      refine jk_aload_n (q := 73) dX13_runScript_72 rfl rfl ?_
      refine jk_getIR (q := 76) (k := 13) 21 21 rfl (by first | exact hm.1 | exact hm.2.1 _ _ rfl | assumption) (by first | exact jk_row_same _ _ _ | exact (md_pS_m _ _ _ _ _ _) | exact (md_pS_p _ _ _ _ _ _) | exact ((md_pS_ne _ _ _ _ _ _ (by omega) (by omega)).trans hb) | (rewrite [jk_row_ne _ _ (by omega)]; first | exact jk_row_same _ _ _ | exact (md_pS_m _ _ _ _ _ _) | exact (md_pS_p _ _ _ _ _ _) | exact ((md_pS_ne _ _ _ _ _ _ (by omega) (by omega)).trans hb) | (rewrite [jk_row_ne _ _ (by omega)]; first | exact jk_row_same _ _ _ | exact (md_pS_m _ _ _ _ _ _) | exact (md_pS_p _ _ _ _ _ _) | exact ((md_pS_ne _ _ _ _ _ _ (by omega) (by omega)).trans hb) | (rewrite [jk_row_ne _ _ (by omega)]; first | exact jk_row_same _ _ _ | exact (md_pS_m _ _ _ _ _ _) | exact (md_pS_p _ _ _ _ _ _) | exact ((md_pS_ne _ _ _ _ _ _ (by omega) (by omega)).trans hb) | (rewrite [jk_row_ne _ _ (by omega)]; first | exact (md_pS_m _ _ _ _ _ _) | exact (md_pS_p _ _ _ _ _ _) | exact ((md_pS_ne _ _ _ _ _ _ (by omega) (by omega)).trans hb) | rfl))))) rfl rfl jw_1869 dX13_runScript_73 rfl ?_
      rw [jk_set_at]
      refine jk_ifB_ne (q := 90) (q2 := 79) dX13_runScript_76 rfl rfl (fun h2 => ?_) (fun h2 => ?_)
      · refine jk_iconst (q := 91) dX13_runScript_90 rfl ?_
        refine jk_goto (q := 95) dX13_runScript_91 rfl ?_
        refine jk_putZR (q := 98) (k := 13) 21 21 rfl (by first | exact hm.1 | exact hm.2.1 _ _ rfl | assumption) (by first | exact jk_row_same _ _ _ | exact (md_pS_m _ _ _ _ _ _) | exact (md_pS_p _ _ _ _ _ _) | exact ((md_pS_ne _ _ _ _ _ _ (by omega) (by omega)).trans hb) | (rewrite [jk_row_ne _ _ (by omega)]; first | exact jk_row_same _ _ _ | exact (md_pS_m _ _ _ _ _ _) | exact (md_pS_p _ _ _ _ _ _) | exact ((md_pS_ne _ _ _ _ _ _ (by omega) (by omega)).trans hb) | (rewrite [jk_row_ne _ _ (by omega)]; first | exact jk_row_same _ _ _ | exact (md_pS_m _ _ _ _ _ _) | exact (md_pS_p _ _ _ _ _ _) | exact ((md_pS_ne _ _ _ _ _ _ (by omega) (by omega)).trans hb) | (rewrite [jk_row_ne _ _ (by omega)]; first | exact jk_row_same _ _ _ | exact (md_pS_m _ _ _ _ _ _) | exact (md_pS_p _ _ _ _ _ _) | exact ((md_pS_ne _ _ _ _ _ _ (by omega) (by omega)).trans hb) | (rewrite [jk_row_ne _ _ (by omega)]; first | exact (md_pS_m _ _ _ _ _ _) | exact (md_pS_p _ _ _ _ _ _) | exact ((md_pS_ne _ _ _ _ _ _ (by omega) (by omega)).trans hb) | rfl))))) rfl rfl rfl (by first | assumption | decide | omega | exact jB_01 _ | exact jB_in _) jw_1869 dX13_runScript_95 rfl ?_
        rw [← jB_t, md_pS_w]
        have hW : (md_w2 Bf ty P0) = true := (by first | (unfold md_w2; rw [show (md_x Bf ty P0).1.2 = true by assumption]; rfl) | (unfold md_w2; rw [decide_eq_true (show (md_x Bf ty P0).1.1 < ty by omega), Bool.or_true]))
        rw [show md_pS σ m O (md_x Bf ty P0).1.1 true (md_x Bf ty P0).2 = md_pS σ m O (md_x Bf ty P0).1.1 (md_w2 Bf ty P0) (md_x Bf ty P0).2 by rw [hW]]
        have hzp : md_z (md_pS σ m O (md_x Bf ty P0).1.1 (md_w2 Bf ty P0) (md_x Bf ty P0).2) m := md_z_row (md_z_row hz _ ⟨by omega, by omega, by omega⟩) _ ⟨by omega, by omega, by omega⟩
        have hzp1 : md_z10 (md_pS σ m O (md_x Bf ty P0).1.1 (md_w2 Bf ty P0) (md_x Bf ty P0).2) m := md_z10_row (md_z10_row hz1 _ ⟨by omega, by omega, by omega, by omega⟩) _ ⟨by omega, by omega, by omega, by omega⟩
        refine jk_aload_n (q := 99) dX13_runScript_98 rfl rfl ?_
        refine jk_iconst (q := 100) dX13_runScript_99 rfl ?_
        refine jk_putIR (q := 103) (k := 13) 7 7 rfl (by first | exact hm.1 | exact hm.2.1 _ _ rfl | assumption) (by first | exact jk_row_same _ _ _ | exact (md_pS_m _ _ _ _ _ _) | exact (md_pS_p _ _ _ _ _ _) | exact ((md_pS_ne _ _ _ _ _ _ (by omega) (by omega)).trans hb) | (rewrite [jk_row_ne _ _ (by omega)]; first | exact jk_row_same _ _ _ | exact (md_pS_m _ _ _ _ _ _) | exact (md_pS_p _ _ _ _ _ _) | exact ((md_pS_ne _ _ _ _ _ _ (by omega) (by omega)).trans hb) | (rewrite [jk_row_ne _ _ (by omega)]; first | exact jk_row_same _ _ _ | exact (md_pS_m _ _ _ _ _ _) | exact (md_pS_p _ _ _ _ _ _) | exact ((md_pS_ne _ _ _ _ _ _ (by omega) (by omega)).trans hb) | (rewrite [jk_row_ne _ _ (by omega)]; first | exact jk_row_same _ _ _ | exact (md_pS_m _ _ _ _ _ _) | exact (md_pS_p _ _ _ _ _ _) | exact ((md_pS_ne _ _ _ _ _ _ (by omega) (by omega)).trans hb) | (rewrite [jk_row_ne _ _ (by omega)]; first | exact (md_pS_m _ _ _ _ _ _) | exact (md_pS_p _ _ _ _ _ _) | exact ((md_pS_ne _ _ _ _ _ _ (by omega) (by omega)).trans hb) | rfl))))) rfl rfl rfl jw_1855 dX13_runScript_100 rfl ?_
        rw [md_O2_w]
        refine jk_aload_n (q := 104) dX13_runScript_103 rfl rfl ?_
        refine jk_getIR (q := 107) (k := 13) 21 21 rfl (by first | exact hm.1 | exact hm.2.1 _ _ rfl | assumption) (by first | exact jk_row_same _ _ _ | exact (md_pS_m _ _ _ _ _ _) | exact (md_pS_p _ _ _ _ _ _) | exact ((md_pS_ne _ _ _ _ _ _ (by omega) (by omega)).trans hb) | (rewrite [jk_row_ne _ _ (by omega)]; first | exact jk_row_same _ _ _ | exact (md_pS_m _ _ _ _ _ _) | exact (md_pS_p _ _ _ _ _ _) | exact ((md_pS_ne _ _ _ _ _ _ (by omega) (by omega)).trans hb) | (rewrite [jk_row_ne _ _ (by omega)]; first | exact jk_row_same _ _ _ | exact (md_pS_m _ _ _ _ _ _) | exact (md_pS_p _ _ _ _ _ _) | exact ((md_pS_ne _ _ _ _ _ _ (by omega) (by omega)).trans hb) | (rewrite [jk_row_ne _ _ (by omega)]; first | exact jk_row_same _ _ _ | exact (md_pS_m _ _ _ _ _ _) | exact (md_pS_p _ _ _ _ _ _) | exact ((md_pS_ne _ _ _ _ _ _ (by omega) (by omega)).trans hb) | (rewrite [jk_row_ne _ _ (by omega)]; first | exact (md_pS_m _ _ _ _ _ _) | exact (md_pS_p _ _ _ _ _ _) | exact ((md_pS_ne _ _ _ _ _ _ (by omega) (by omega)).trans hb) | rfl))))) rfl rfl jw_1869 dX13_runScript_104 rfl ?_
        rw [(md_O2_at _ _ _).2.2]
        rw [show jB (md_w2 Bf ty P0) = 1 by rw [hW]; rfl]
        refine jk_ifN_eq (q := 110) (by decide) (by decide) dX13_runScript_107 rfl rfl ?_
        skip
        refine jk_aload_n (q := 111) dX13_runScript_110 rfl rfl ?_
        refine jk_aload_n (q := 112) dX13_runScript_111 rfl rfl ?_
        refine jk_getIR (q := 115) (k := 13) 20 20 rfl (by first | exact hm.1 | exact hm.2.1 _ _ rfl | assumption) (by first | exact jk_row_same _ _ _ | exact (md_pS_m _ _ _ _ _ _) | exact (md_pS_p _ _ _ _ _ _) | exact ((md_pS_ne _ _ _ _ _ _ (by omega) (by omega)).trans hb) | (rewrite [jk_row_ne _ _ (by omega)]; first | exact jk_row_same _ _ _ | exact (md_pS_m _ _ _ _ _ _) | exact (md_pS_p _ _ _ _ _ _) | exact ((md_pS_ne _ _ _ _ _ _ (by omega) (by omega)).trans hb) | (rewrite [jk_row_ne _ _ (by omega)]; first | exact jk_row_same _ _ _ | exact (md_pS_m _ _ _ _ _ _) | exact (md_pS_p _ _ _ _ _ _) | exact ((md_pS_ne _ _ _ _ _ _ (by omega) (by omega)).trans hb) | (rewrite [jk_row_ne _ _ (by omega)]; first | exact jk_row_same _ _ _ | exact (md_pS_m _ _ _ _ _ _) | exact (md_pS_p _ _ _ _ _ _) | exact ((md_pS_ne _ _ _ _ _ _ (by omega) (by omega)).trans hb) | (rewrite [jk_row_ne _ _ (by omega)]; first | exact (md_pS_m _ _ _ _ _ _) | exact (md_pS_p _ _ _ _ _ _) | exact ((md_pS_ne _ _ _ _ _ _ (by omega) (by omega)).trans hb) | rfl))))) rfl rfl jw_1868 dX13_runScript_112 rfl ?_
        rw [(md_O2_at _ _ _).2.1]
        refine jk_putIR (q := 118) (k := 13) 8 8 rfl (by first | exact hm.1 | exact hm.2.1 _ _ rfl | assumption) (by first | exact jk_row_same _ _ _ | exact (md_pS_m _ _ _ _ _ _) | exact (md_pS_p _ _ _ _ _ _) | exact ((md_pS_ne _ _ _ _ _ _ (by omega) (by omega)).trans hb) | (rewrite [jk_row_ne _ _ (by omega)]; first | exact jk_row_same _ _ _ | exact (md_pS_m _ _ _ _ _ _) | exact (md_pS_p _ _ _ _ _ _) | exact ((md_pS_ne _ _ _ _ _ _ (by omega) (by omega)).trans hb) | (rewrite [jk_row_ne _ _ (by omega)]; first | exact jk_row_same _ _ _ | exact (md_pS_m _ _ _ _ _ _) | exact (md_pS_p _ _ _ _ _ _) | exact ((md_pS_ne _ _ _ _ _ _ (by omega) (by omega)).trans hb) | (rewrite [jk_row_ne _ _ (by omega)]; first | exact jk_row_same _ _ _ | exact (md_pS_m _ _ _ _ _ _) | exact (md_pS_p _ _ _ _ _ _) | exact ((md_pS_ne _ _ _ _ _ _ (by omega) (by omega)).trans hb) | (rewrite [jk_row_ne _ _ (by omega)]; first | exact (md_pS_m _ _ _ _ _ _) | exact (md_pS_p _ _ _ _ _ _) | exact ((md_pS_ne _ _ _ _ _ _ (by omega) (by omega)).trans hb) | rfl))))) rfl rfl rfl jw_1856 dX13_runScript_115 rfl ?_
        skip
        refine jk_aload_n (q := 119) dX13_runScript_118 rfl rfl ?_
        refine jk_iconst (q := 120) dX13_runScript_119 rfl ?_
        refine jk_cV1p (q := 123) (c_X13_fails hm (jk_row_same _ _ _)) jm_X13_fails jw_1937 rfl (by first | exact hm.1 | exact hm.2.1 _ _ rfl | assumption) rfl rfl rfl dX13_runScript_120 rfl ?_
        exact jk_iret rfl dX13_runScript_123 (by exact md_rq (v := 0) (O' := jk_set (jk_set (md_O2 O (md_x Bf ty P0).1.1 (md_w2 Bf ty P0)) 8 (md_x Bf ty P0).1.1) 12 1) (g' := g) (b' := b) (h' := h) (by unfold md_rs5; rw [if_pos hW]) (by unfold md_th; (repeat first | rewrite [jk_row_same] | rewrite [jk_row_ne _ _ (by omega)]); rfl) (by unfold md_th; (repeat first | rewrite [jk_row_same] | rewrite [jk_row_ne _ _ (by omega)]); exact (md_pS_ne _ _ _ _ _ _ (by omega) (by omega)).trans hg) (by unfold md_th; (repeat first | rewrite [jk_row_same] | rewrite [jk_row_ne _ _ (by omega)]); exact (md_pS_ne _ _ _ _ _ _ (by omega) (by omega)).trans hb4) (by unfold md_th; (repeat first | rewrite [jk_row_same] | rewrite [jk_row_ne _ _ (by omega)]); exact (md_pS_ne _ _ _ _ _ _ (by omega) (by omega)).trans hh) (by unfold md_th; (repeat first | rewrite [jk_row_same] | rewrite [jk_row_ne _ _ (by omega)]); exact md_pS_p _ _ _ _ _ _) (fun a h1 h2 h3 h4 h5 h6 => by unfold md_th; rw [jk_row_ne _ _ h2, jk_row_ne _ _ h2, jk_row_ne _ _ h2]; exact md_pS_ne _ _ _ _ _ _ h2 h6) (by unfold md_th; exact md_z_row (md_z_row (md_z_row hzp _ ⟨by omega, by omega, by omega⟩) _ ⟨by omega, by omega, by omega⟩) _ ⟨by omega, by omega, by omega⟩) (by unfold md_th; exact md_z10_row (md_z10_row (md_z10_row hzp1 _ ⟨by omega, by omega, by omega, by omega⟩) _ ⟨by omega, by omega, by omega, by omega⟩) _ ⟨by omega, by omega, by omega, by omega⟩))
      · refine jk_aload_n (q := 80) dX13_runScript_79 rfl rfl ?_
        refine jk_getIR (q := 83) (k := 13) 20 20 rfl (by first | exact hm.1 | exact hm.2.1 _ _ rfl | assumption) (by first | exact jk_row_same _ _ _ | exact (md_pS_m _ _ _ _ _ _) | exact (md_pS_p _ _ _ _ _ _) | exact ((md_pS_ne _ _ _ _ _ _ (by omega) (by omega)).trans hb) | (rewrite [jk_row_ne _ _ (by omega)]; first | exact jk_row_same _ _ _ | exact (md_pS_m _ _ _ _ _ _) | exact (md_pS_p _ _ _ _ _ _) | exact ((md_pS_ne _ _ _ _ _ _ (by omega) (by omega)).trans hb) | (rewrite [jk_row_ne _ _ (by omega)]; first | exact jk_row_same _ _ _ | exact (md_pS_m _ _ _ _ _ _) | exact (md_pS_p _ _ _ _ _ _) | exact ((md_pS_ne _ _ _ _ _ _ (by omega) (by omega)).trans hb) | (rewrite [jk_row_ne _ _ (by omega)]; first | exact jk_row_same _ _ _ | exact (md_pS_m _ _ _ _ _ _) | exact (md_pS_p _ _ _ _ _ _) | exact ((md_pS_ne _ _ _ _ _ _ (by omega) (by omega)).trans hb) | (rewrite [jk_row_ne _ _ (by omega)]; first | exact (md_pS_m _ _ _ _ _ _) | exact (md_pS_p _ _ _ _ _ _) | exact ((md_pS_ne _ _ _ _ _ _ (by omega) (by omega)).trans hb) | rfl))))) rfl rfl jw_1868 dX13_runScript_80 rfl ?_
        rw [md_f20]
        refine jk_aload_n (q := 84) dX13_runScript_83 rfl rfl ?_
        refine jk_getIR (q := 87) (k := 13) 7 7 rfl (by first | exact hm.1 | exact hm.2.1 _ _ rfl | assumption) (by first | exact jk_row_same _ _ _ | exact (md_pS_m _ _ _ _ _ _) | exact (md_pS_p _ _ _ _ _ _) | exact ((md_pS_ne _ _ _ _ _ _ (by omega) (by omega)).trans hb) | (rewrite [jk_row_ne _ _ (by omega)]; first | exact jk_row_same _ _ _ | exact (md_pS_m _ _ _ _ _ _) | exact (md_pS_p _ _ _ _ _ _) | exact ((md_pS_ne _ _ _ _ _ _ (by omega) (by omega)).trans hb) | (rewrite [jk_row_ne _ _ (by omega)]; first | exact jk_row_same _ _ _ | exact (md_pS_m _ _ _ _ _ _) | exact (md_pS_p _ _ _ _ _ _) | exact ((md_pS_ne _ _ _ _ _ _ (by omega) (by omega)).trans hb) | (rewrite [jk_row_ne _ _ (by omega)]; first | exact jk_row_same _ _ _ | exact (md_pS_m _ _ _ _ _ _) | exact (md_pS_p _ _ _ _ _ _) | exact ((md_pS_ne _ _ _ _ _ _ (by omega) (by omega)).trans hb) | (rewrite [jk_row_ne _ _ (by omega)]; first | exact (md_pS_m _ _ _ _ _ _) | exact (md_pS_p _ _ _ _ _ _) | exact ((md_pS_ne _ _ _ _ _ _ (by omega) (by omega)).trans hb) | rfl))))) rfl rfl jw_1855 dX13_runScript_84 rfl ?_
        rw [md_f7, hty]
        refine jk_icmp_ge (q := 94) (q2 := 90) dX13_runScript_87 rfl rfl (by first | assumption | decide | omega | exact jB_01 _ | exact jB_in _) (by first | assumption | decide | omega | exact jB_01 _ | exact jB_in _) (fun h3 => ?_) (fun h3 => ?_)
        · refine jk_iconst (q := 95) dX13_runScript_94 rfl ?_
          refine jk_putZR (q := 98) (k := 13) 21 21 rfl (by first | exact hm.1 | exact hm.2.1 _ _ rfl | assumption) (by first | exact jk_row_same _ _ _ | exact (md_pS_m _ _ _ _ _ _) | exact (md_pS_p _ _ _ _ _ _) | exact ((md_pS_ne _ _ _ _ _ _ (by omega) (by omega)).trans hb) | (rewrite [jk_row_ne _ _ (by omega)]; first | exact jk_row_same _ _ _ | exact (md_pS_m _ _ _ _ _ _) | exact (md_pS_p _ _ _ _ _ _) | exact ((md_pS_ne _ _ _ _ _ _ (by omega) (by omega)).trans hb) | (rewrite [jk_row_ne _ _ (by omega)]; first | exact jk_row_same _ _ _ | exact (md_pS_m _ _ _ _ _ _) | exact (md_pS_p _ _ _ _ _ _) | exact ((md_pS_ne _ _ _ _ _ _ (by omega) (by omega)).trans hb) | (rewrite [jk_row_ne _ _ (by omega)]; first | exact jk_row_same _ _ _ | exact (md_pS_m _ _ _ _ _ _) | exact (md_pS_p _ _ _ _ _ _) | exact ((md_pS_ne _ _ _ _ _ _ (by omega) (by omega)).trans hb) | (rewrite [jk_row_ne _ _ (by omega)]; first | exact (md_pS_m _ _ _ _ _ _) | exact (md_pS_p _ _ _ _ _ _) | exact ((md_pS_ne _ _ _ _ _ _ (by omega) (by omega)).trans hb) | rfl))))) rfl rfl rfl (by first | assumption | decide | omega | exact jB_01 _ | exact jB_in _) jw_1869 dX13_runScript_95 rfl ?_
          rw [← jB_f, md_pS_w]
          have hW : (md_w2 Bf ty P0) = false := (by unfold md_w2; rw [show (md_x Bf ty P0).1.2 = false by assumption, decide_eq_false (show ¬ (md_x Bf ty P0).1.1 < ty by omega)]; rfl)
          rw [show md_pS σ m O (md_x Bf ty P0).1.1 false (md_x Bf ty P0).2 = md_pS σ m O (md_x Bf ty P0).1.1 (md_w2 Bf ty P0) (md_x Bf ty P0).2 by rw [hW]]
          have hzp : md_z (md_pS σ m O (md_x Bf ty P0).1.1 (md_w2 Bf ty P0) (md_x Bf ty P0).2) m := md_z_row (md_z_row hz _ ⟨by omega, by omega, by omega⟩) _ ⟨by omega, by omega, by omega⟩
          have hzp1 : md_z10 (md_pS σ m O (md_x Bf ty P0).1.1 (md_w2 Bf ty P0) (md_x Bf ty P0).2) m := md_z10_row (md_z10_row hz1 _ ⟨by omega, by omega, by omega, by omega⟩) _ ⟨by omega, by omega, by omega, by omega⟩
          refine jk_aload_n (q := 99) dX13_runScript_98 rfl rfl ?_
          refine jk_iconst (q := 100) dX13_runScript_99 rfl ?_
          refine jk_putIR (q := 103) (k := 13) 7 7 rfl (by first | exact hm.1 | exact hm.2.1 _ _ rfl | assumption) (by first | exact jk_row_same _ _ _ | exact (md_pS_m _ _ _ _ _ _) | exact (md_pS_p _ _ _ _ _ _) | exact ((md_pS_ne _ _ _ _ _ _ (by omega) (by omega)).trans hb) | (rewrite [jk_row_ne _ _ (by omega)]; first | exact jk_row_same _ _ _ | exact (md_pS_m _ _ _ _ _ _) | exact (md_pS_p _ _ _ _ _ _) | exact ((md_pS_ne _ _ _ _ _ _ (by omega) (by omega)).trans hb) | (rewrite [jk_row_ne _ _ (by omega)]; first | exact jk_row_same _ _ _ | exact (md_pS_m _ _ _ _ _ _) | exact (md_pS_p _ _ _ _ _ _) | exact ((md_pS_ne _ _ _ _ _ _ (by omega) (by omega)).trans hb) | (rewrite [jk_row_ne _ _ (by omega)]; first | exact jk_row_same _ _ _ | exact (md_pS_m _ _ _ _ _ _) | exact (md_pS_p _ _ _ _ _ _) | exact ((md_pS_ne _ _ _ _ _ _ (by omega) (by omega)).trans hb) | (rewrite [jk_row_ne _ _ (by omega)]; first | exact (md_pS_m _ _ _ _ _ _) | exact (md_pS_p _ _ _ _ _ _) | exact ((md_pS_ne _ _ _ _ _ _ (by omega) (by omega)).trans hb) | rfl))))) rfl rfl rfl jw_1855 dX13_runScript_100 rfl ?_
          rw [md_O2_w]
          refine jk_aload_n (q := 104) dX13_runScript_103 rfl rfl ?_
          refine jk_getIR (q := 107) (k := 13) 21 21 rfl (by first | exact hm.1 | exact hm.2.1 _ _ rfl | assumption) (by first | exact jk_row_same _ _ _ | exact (md_pS_m _ _ _ _ _ _) | exact (md_pS_p _ _ _ _ _ _) | exact ((md_pS_ne _ _ _ _ _ _ (by omega) (by omega)).trans hb) | (rewrite [jk_row_ne _ _ (by omega)]; first | exact jk_row_same _ _ _ | exact (md_pS_m _ _ _ _ _ _) | exact (md_pS_p _ _ _ _ _ _) | exact ((md_pS_ne _ _ _ _ _ _ (by omega) (by omega)).trans hb) | (rewrite [jk_row_ne _ _ (by omega)]; first | exact jk_row_same _ _ _ | exact (md_pS_m _ _ _ _ _ _) | exact (md_pS_p _ _ _ _ _ _) | exact ((md_pS_ne _ _ _ _ _ _ (by omega) (by omega)).trans hb) | (rewrite [jk_row_ne _ _ (by omega)]; first | exact jk_row_same _ _ _ | exact (md_pS_m _ _ _ _ _ _) | exact (md_pS_p _ _ _ _ _ _) | exact ((md_pS_ne _ _ _ _ _ _ (by omega) (by omega)).trans hb) | (rewrite [jk_row_ne _ _ (by omega)]; first | exact (md_pS_m _ _ _ _ _ _) | exact (md_pS_p _ _ _ _ _ _) | exact ((md_pS_ne _ _ _ _ _ _ (by omega) (by omega)).trans hb) | rfl))))) rfl rfl jw_1869 dX13_runScript_104 rfl ?_
          rw [(md_O2_at _ _ _).2.2]
          rw [show jB (md_w2 Bf ty P0) = 0 by rw [hW]; rfl]
          refine jk_ifT_eq (q := 124) (by decide) (by decide) dX13_runScript_107 rfl ?_
          refine jk_aload_n (q := 125) dX13_runScript_124 rfl rfl ?_
          refine jk_cV0v (q := 128) (c_X13_begin (g := g) (b := b) hm (by (repeat first | rewrite [jk_row_same] | rewrite [jk_row_ne _ _ (by omega)]); exact (md_pS_ne _ _ _ _ _ _ (by omega) (by omega)).trans hg) (by (repeat first | rewrite [jk_row_same] | rewrite [jk_row_ne _ _ (by omega)]); exact (md_pS_ne _ _ _ _ _ _ (by omega) (by omega)).trans hb4) hgz hbz) jm_X13_begin jw_1926 rfl (by first | exact hm.1 | exact hm.2.1 _ _ rfl | assumption) rfl rfl rfl dX13_runScript_125 rfl ?_
          refine jk_iconst (q := 129) dX13_runScript_128 rfl ?_
          refine jk_istore3 (q := 130) dX13_runScript_129 rfl rfl rfl ?_
          have L130 : ∀ k130 : Nat, k130 ≤ (md_cn Bf ty P0) → ∀ (σ1 : jk_I) (c : Int), (ho1 : σ1 m = jk_set (md_O2 O (md_x Bf ty P0).1.1 (md_w2 Bf ty P0)) 12 c) → (hg1 : σ1 (m + 2) = (md_gk (md_x Bf ty P0).2 g k130)) → (hrest : ∀ a, ¬ md_scr m a → a ≠ m → a ≠ m + 2 → a ≠ m + 4 → a ≠ m + 28 → σ1 a = σ a) → (hb41 : σ1 (m + 4) = g) → (hp1 : σ1 (m + 28) = (md_x Bf ty P0).2) → (hz9 : md_z σ1 m) → (hz19 : md_z10 σ1 m) → (hf : jk_fnd (md_fP (md_x Bf ty P0).2 g) k130 = -1) → jk_J G mX13_runScript 130 [some (.ref m), some (jI ((md_cn Bf ty P0) : Nat)), some (jI (jB mo)), some (jI (k130 : Int)), none] [] n t σ1 ρ 0 0 (md_rQ m σ n t ρ (md_x Bf ty P0).2 (md_rs5 O g b h Bf ty P0)) jk_no := by
            refine jk_loop _ (fun k130 hk130 ih130 => ?_)
            intro σ1 c ho1 hg1 hrest hb41 hp1 hz9 hz19 hf
            have hh1 : σ1 (m + 6) = h := (hrest _ (by unfold md_scr; omega) (by omega) (by omega) (by omega) (by omega)).trans hh
            have hal := hall (md_x Bf ty P0).2 hxp k130 (by omega)
            have hok := md_do_ok (P := (md_x Bf ty P0).2) hal.1 hal.2.2.2 (5 * (k130 : Int))
            have hlk := md_like_doS (P := (md_x Bf ty P0).2) hal.1 hz9 hz19 hal.2.2.1 (5 * (k130 : Int))
            have hok1 := hok.1
            refine jk_iload_n (q := 131) dX13_runScript_130 rfl rfl ?_
            refine jk_iload_n (q := 132) dX13_runScript_131 rfl rfl ?_
            refine jk_icmp_ge (q := 174) (q2 := 135) dX13_runScript_132 rfl rfl (by first | assumption | decide | omega | exact jB_01 _ | exact jB_in _) (by first | assumption | decide | omega | exact jB_01 _ | exact jB_in _) (fun h4 => ?_) (fun h4 => ?_)
            · refine jk_aload_n (q := 175) dX13_runScript_174 rfl rfl ?_
              refine jk_aload_n (q := 176) dX13_runScript_175 rfl rfl ?_
              refine jk_iload_n (q := 177) dX13_runScript_176 rfl rfl ?_
              refine jk_cV1p (q := 180) (c_X13_done hm ho1) jm_X13_done jw_1941 rfl (by first | exact hm.1 | exact hm.2.1 _ _ rfl | assumption) rfl rfl rfl dX13_runScript_177 rfl ?_
              refine jk_cV1p (q := 183) (c_X13_kept (g := (md_gk (md_x Bf ty P0).2 g k130)) (O := jk_set (md_O2 O (md_x Bf ty P0).1.1 (md_w2 Bf ty P0)) 12 0) (b := g) (h := h) hm (by unfold md_th; (repeat first | rewrite [jk_row_same] | rewrite [jk_row_ne _ _ (by omega)]); exact hg1) (by unfold md_th; rw [jk_row_same, jk_set_set]) (by unfold md_th; (repeat first | rewrite [jk_row_same] | rewrite [jk_row_ne _ _ (by omega)]); exact hb41) hal.2.2.2 hgz (by unfold md_th; (repeat first | rewrite [jk_row_same] | rewrite [jk_row_ne _ _ (by omega)]); exact hh1) (by rw [jk_set_ne _ _ (by decide), (md_O2_at _ _ _).1]; exact ho3) (by rw [jk_set_at]; decide)) jm_X13_kept jw_1945 rfl (by first | exact hm.1 | exact hm.2.1 _ _ rfl | assumption) rfl rfl rfl dX13_runScript_180 rfl ?_
              exact jk_iret rfl dX13_runScript_183 (by rw [if_pos (by rw [jk_set_at])]; rw [md_kp_t (by rw [jk_set_at])]; have hkN : k130 = (md_cn Bf ty P0) := (by omega); exact md_rq (v := ((md_cn Bf ty P0) : Nat)) (O' := jk_set (jk_set (md_O2 O (md_x Bf ty P0).1.1 (md_w2 Bf ty P0)) 12 0) 3 (md_c2 (O 3))) (g' := (md_gk (md_x Bf ty P0).2 g k130)) (b' := g) (h' := md_h2 h (O 3) g) (by unfold md_rs5; rw [if_neg (by rw [hW]; decide), if_pos (by unfold md_ff; rw [← hkN]; exact hf), hkN]) (by (repeat first | rewrite [jk_row_same] | rewrite [jk_row_ne _ _ (by omega)]); rw [jk_set_ne _ _ (by decide), (md_O2_at _ _ _).1]) (by unfold md_th; (repeat first | rewrite [jk_row_same] | rewrite [jk_row_ne _ _ (by omega)]); exact hg1) (by unfold md_th; (repeat first | rewrite [jk_row_same] | rewrite [jk_row_ne _ _ (by omega)]); exact hb41) (by (repeat first | rewrite [jk_row_same] | rewrite [jk_row_ne _ _ (by omega)]); rw [jk_set_ne _ _ (by decide), (md_O2_at _ _ _).1]) (by unfold md_th; (repeat first | rewrite [jk_row_same] | rewrite [jk_row_ne _ _ (by omega)]); exact hp1) (fun a h1 h2 h3 h4 h5 h6 => by unfold md_th; rw [jk_row_ne _ _ h2, jk_row_ne _ _ h5, jk_row_ne _ _ h2]; exact hrest a h1 h2 h3 h4 h6) (by unfold md_th; exact md_z_row (md_z_row (md_z_row hz9 _ ⟨by omega, by omega, by omega⟩) _ ⟨by omega, by omega, by omega⟩) _ ⟨by omega, by omega, by omega⟩) (by unfold md_th; exact md_z10_row (md_z10_row (md_z10_row hz19 _ ⟨by omega, by omega, by omega, by omega⟩) _ ⟨by omega, by omega, by omega, by omega⟩) _ ⟨by omega, by omega, by omega, by omega⟩))
            · refine jk_aload_n (q := 136) dX13_runScript_135 rfl rfl ?_
              refine jk_iconst (q := 137) dX13_runScript_136 rfl ?_
              refine jk_iload_n (q := 138) dX13_runScript_137 rfl rfl ?_
              refine jk_imul (q := 139) dX13_runScript_138 rfl ?_
              refine jk_cV1p (q := 142) (c_X13_carriesOut (g := (md_gk (md_x Bf ty P0).2 g k130)) (O := jk_set (md_O2 O (md_x Bf ty P0).1.1 (md_w2 Bf ty P0)) 12 c) (P := (md_x Bf ty P0).2) hm hg1 hal.1 ho1 hp1 (fun i _ => by have := hxp i; exact ⟨by omega, by omega⟩) ⟨by omega, by omega⟩ hz9 hz19 hal.2.2.1 hal.2.1) jm_X13_carriesOut jw_2428 rfl (by first | exact hm.1 | exact hm.2.1 _ _ rfl | assumption) rfl rfl rfl dX13_runScript_139 rfl ?_
              refine jk_istore4 (q := 144) dX13_runScript_142 rfl rfl rfl ?_
              refine jk_aload_n (q := 145) dX13_runScript_144 rfl rfl ?_
              refine jk_getIR (q := 148) (k := 13) 12 12 rfl (by first | exact hm.1 | exact hm.2.1 _ _ rfl | assumption) (by first | exact jk_row_same _ _ _ | exact ho1 | exact hg1 | exact hp1 | (rewrite [jk_row_ne _ _ (by omega)]; first | exact jk_row_same _ _ _ | exact ho1 | exact hg1 | exact hp1 | (rewrite [jk_row_ne _ _ (by omega)]; first | exact jk_row_same _ _ _ | exact ho1 | exact hg1 | exact hp1 | (rewrite [jk_row_ne _ _ (by omega)]; first | exact jk_row_same _ _ _ | exact ho1 | exact hg1 | exact hp1 | (rewrite [jk_row_ne _ _ (by omega)]; first | exact ho1 | exact hg1 | exact hp1 | rfl))))) rfl rfl jw_1860 dX13_runScript_145 rfl ?_
              rw [jk_set_at]
              refine jk_if_eq (q := 168) (q2 := 151) dX13_runScript_148 rfl rfl (by first | assumption | decide | omega | exact jB_01 _ | exact jB_in _) (fun h5 => ?_) (fun h5 => ?_)
              · refine jk_iinc3 (q := 171) dX13_runScript_168 rfl rfl rfl ?_
                refine jk_goto (q := 130) dX13_runScript_171 rfl ?_
                refine jk_convw (ih130 (by omega) _ 0 (by unfold md_res; rw [jk_row_same, jk_set_set, show (md_do (md_x Bf ty P0).2 (5 * (k130 : Int)) (md_gk (md_x Bf ty P0).2 g k130)).1 = 0 by assumption]) (by unfold md_res; (repeat first | rewrite [jk_row_same] | rewrite [jk_row_ne _ _ (by omega)]); rfl) (fun a h1 h2 h3 h4 h5 => by unfold md_res; rw [jk_row_ne _ _ h2, jk_row_ne _ _ h3, hlk.1 a h1]; exact hrest a h1 h2 h3 h4 h5) (by unfold md_res; (repeat first | rewrite [jk_row_same] | rewrite [jk_row_ne _ _ (by omega)]); exact (hlk.1 _ (by unfold md_scr; omega)).trans hb41) (by unfold md_res; (repeat first | rewrite [jk_row_same] | rewrite [jk_row_ne _ _ (by omega)]); exact (hlk.1 _ (by unfold md_scr; omega)).trans hp1) (md_z_row (md_z_row hlk.2.1 _ ⟨by omega, by omega, by omega⟩) _ ⟨by omega, by omega, by omega⟩) (md_z10_row (md_z10_row hlk.2.2 _ ⟨by omega, by omega, by omega, by omega⟩) _ ⟨by omega, by omega, by omega, by omega⟩) (jk_fnd_S hf (by unfold md_fP; rw [Int.toNat_natCast]; simp [*]))) (jk_wkS rfl (jk_wkS rfl (jk_wkS rfl (jk_wkS rfl (jk_wkN jk_wk0)))))
              · refine jk_aload_n (q := 152) dX13_runScript_151 rfl rfl ?_
                refine jk_iload_n (q := 153) dX13_runScript_152 rfl rfl ?_
                refine jk_putIR (q := 156) (k := 13) 9 9 rfl (by first | exact hm.1 | exact hm.2.1 _ _ rfl | assumption) (by first | exact jk_row_same _ _ _ | exact ho1 | exact hg1 | exact hp1 | (rewrite [jk_row_ne _ _ (by omega)]; first | exact jk_row_same _ _ _ | exact ho1 | exact hg1 | exact hp1 | (rewrite [jk_row_ne _ _ (by omega)]; first | exact jk_row_same _ _ _ | exact ho1 | exact hg1 | exact hp1 | (rewrite [jk_row_ne _ _ (by omega)]; first | exact jk_row_same _ _ _ | exact ho1 | exact hg1 | exact hp1 | (rewrite [jk_row_ne _ _ (by omega)]; first | exact ho1 | exact hg1 | exact hp1 | rfl))))) rfl rfl rfl jw_1857 dX13_runScript_153 rfl ?_
                skip
                refine jk_aload_n (q := 157) dX13_runScript_156 rfl rfl ?_
                refine jk_iconst (q := 158) dX13_runScript_157 rfl ?_
                refine jk_putIR (q := 161) (k := 13) 12 12 rfl (by first | exact hm.1 | exact hm.2.1 _ _ rfl | assumption) (by first | exact jk_row_same _ _ _ | exact ho1 | exact hg1 | exact hp1 | (rewrite [jk_row_ne _ _ (by omega)]; first | exact jk_row_same _ _ _ | exact ho1 | exact hg1 | exact hp1 | (rewrite [jk_row_ne _ _ (by omega)]; first | exact jk_row_same _ _ _ | exact ho1 | exact hg1 | exact hp1 | (rewrite [jk_row_ne _ _ (by omega)]; first | exact jk_row_same _ _ _ | exact ho1 | exact hg1 | exact hp1 | (rewrite [jk_row_ne _ _ (by omega)]; first | exact ho1 | exact hg1 | exact hp1 | rfl))))) rfl rfl rfl jw_1860 dX13_runScript_158 rfl ?_
                skip
                have hs92 := md_s92 (md_O2 O (md_x Bf ty P0).1.1 (md_w2 Bf ty P0)) c (md_do (md_x Bf ty P0).2 (5 * (k130 : Int)) (md_gk (md_x Bf ty P0).2 g k130)).1 (k130 : Int)
                have hF : md_ff Bf ty P0 g = (k130 : Int) := jk_fnd_hit hf (by unfold md_fP; rw [Int.toNat_natCast]; simp [*]) _ (by omega)
                refine jk_aload_n (q := 162) dX13_runScript_161 rfl rfl ?_
                refine jk_iload (q := 164) dX13_runScript_162 rfl rfl ?_
                refine jk_cV1p (q := 167) (c_X13_kept (g := (md_do (md_x Bf ty P0).2 (5 * (k130 : Int)) (md_gk (md_x Bf ty P0).2 g k130)).2.2) (O := jk_set (jk_set (md_O2 O (md_x Bf ty P0).1.1 (md_w2 Bf ty P0)) 9 (k130 : Int)) 12 2) (b := g) (h := h) hm (by (repeat first | rewrite [jk_row_same] | rewrite [jk_row_ne _ _ (by omega)]); unfold md_res; (repeat first | rewrite [jk_row_same] | rewrite [jk_row_ne _ _ (by omega)]); rfl) (by rw [jk_row_same, hs92]) (by (repeat first | rewrite [jk_row_same] | rewrite [jk_row_ne _ _ (by omega)]); unfold md_res; (repeat first | rewrite [jk_row_same] | rewrite [jk_row_ne _ _ (by omega)]); exact (hlk.1 _ (by unfold md_scr; omega)).trans hb41) hok.2 hgz (by (repeat first | rewrite [jk_row_same] | rewrite [jk_row_ne _ _ (by omega)]); unfold md_res; (repeat first | rewrite [jk_row_same] | rewrite [jk_row_ne _ _ (by omega)]); exact (hlk.1 _ (by unfold md_scr; omega)).trans hh1) (by rw [jk_set_ne _ _ (by decide), jk_set_ne _ _ (by decide), (md_O2_at _ _ _).1]; exact ho3) (by rw [jk_set_at]; decide)) jm_X13_kept jw_1945 rfl (by first | exact hm.1 | exact hm.2.1 _ _ rfl | assumption) rfl rfl rfl dX13_runScript_164 rfl ?_
                exact jk_iret rfl dX13_runScript_167 (by rw [if_neg (by rw [jk_set_at]; decide)]; rw [md_kp_f (by rw [jk_set_at]; decide)]; exact md_rq (v := 0) (O' := jk_set (jk_set (md_O2 O (md_x Bf ty P0).1.1 (md_w2 Bf ty P0)) 9 (k130 : Int)) 12 2) (g' := g) (b' := g) (h' := h) (by unfold md_rs5; rw [if_neg (by rw [hW]; decide), if_neg (by rw [hF]; omega), hF]) (by (repeat first | rewrite [jk_row_same] | rewrite [jk_row_ne _ _ (by omega)]); exact hs92) (by (repeat first | rewrite [jk_row_same] | rewrite [jk_row_ne _ _ (by omega)]); rfl) (by (repeat first | rewrite [jk_row_same] | rewrite [jk_row_ne _ _ (by omega)]); unfold md_res; (repeat first | rewrite [jk_row_same] | rewrite [jk_row_ne _ _ (by omega)]); exact (hlk.1 _ (by unfold md_scr; omega)).trans hb41) (by (repeat first | rewrite [jk_row_same] | rewrite [jk_row_ne _ _ (by omega)]); unfold md_res; (repeat first | rewrite [jk_row_same] | rewrite [jk_row_ne _ _ (by omega)]); exact (hlk.1 _ (by unfold md_scr; omega)).trans hh1) (by (repeat first | rewrite [jk_row_same] | rewrite [jk_row_ne _ _ (by omega)]); unfold md_res; (repeat first | rewrite [jk_row_same] | rewrite [jk_row_ne _ _ (by omega)]); exact (hlk.1 _ (by unfold md_scr; omega)).trans hp1) (fun a h1 h2 h3 h4 h5 h6 => by rw [jk_row_ne _ _ h3, jk_row_ne _ _ h2, jk_row_ne _ _ h2]; unfold md_res; rw [jk_row_ne _ _ h2, jk_row_ne _ _ h3, hlk.1 a h1]; exact hrest a h1 h2 h3 h4 h6) (by unfold md_res; exact md_z_row (md_z_row (md_z_row (md_z_row (md_z_row hlk.2.1 _ ⟨by omega, by omega, by omega⟩) _ ⟨by omega, by omega, by omega⟩) _ ⟨by omega, by omega, by omega⟩) _ ⟨by omega, by omega, by omega⟩) _ ⟨by omega, by omega, by omega⟩) (by unfold md_res; exact md_z10_row (md_z10_row (md_z10_row (md_z10_row (md_z10_row hlk.2.2 _ ⟨by omega, by omega, by omega, by omega⟩) _ ⟨by omega, by omega, by omega, by omega⟩) _ ⟨by omega, by omega, by omega, by omega⟩) _ ⟨by omega, by omega, by omega, by omega⟩) _ ⟨by omega, by omega, by omega, by omega⟩))
          refine jk_convw (L130 0 (Nat.zero_le _) _ ((md_O2 O (md_x Bf ty P0).1.1 (md_w2 Bf ty P0)) 12) (by (repeat first | rewrite [jk_row_same] | rewrite [jk_row_ne _ _ (by omega)]); rw [md_set_self]) (by (repeat first | rewrite [jk_row_same] | rewrite [jk_row_ne _ _ (by omega)]); exact (md_pS_ne _ _ _ _ _ _ (by omega) (by omega)).trans hg) (fun a h1 h2 h3 h4 h5 => by rw [jk_row_ne _ _ h4, jk_row_ne _ _ h2]; exact md_pS_ne _ _ _ _ _ _ h2 h5) (jk_row_same _ _ _) (by (repeat first | rewrite [jk_row_same] | rewrite [jk_row_ne _ _ (by omega)]); exact md_pS_p _ _ _ _ _ _) (md_z_row (md_z_row hzp _ ⟨by omega, by omega, by omega⟩) _ ⟨by omega, by omega, by omega⟩) (md_z10_row (md_z10_row hzp1 _ ⟨by omega, by omega, by omega, by omega⟩) _ ⟨by omega, by omega, by omega, by omega⟩) rfl) (jk_wkS rfl (jk_wkS (jk_li (by rw [hN])) (jk_wkS rfl (jk_wkS rfl (jk_wkN jk_wk0)))))
        · refine jk_iconst (q := 91) dX13_runScript_90 rfl ?_
          refine jk_goto (q := 95) dX13_runScript_91 rfl ?_
          refine jk_putZR (q := 98) (k := 13) 21 21 rfl (by first | exact hm.1 | exact hm.2.1 _ _ rfl | assumption) (by first | exact jk_row_same _ _ _ | exact (md_pS_m _ _ _ _ _ _) | exact (md_pS_p _ _ _ _ _ _) | exact ((md_pS_ne _ _ _ _ _ _ (by omega) (by omega)).trans hb) | (rewrite [jk_row_ne _ _ (by omega)]; first | exact jk_row_same _ _ _ | exact (md_pS_m _ _ _ _ _ _) | exact (md_pS_p _ _ _ _ _ _) | exact ((md_pS_ne _ _ _ _ _ _ (by omega) (by omega)).trans hb) | (rewrite [jk_row_ne _ _ (by omega)]; first | exact jk_row_same _ _ _ | exact (md_pS_m _ _ _ _ _ _) | exact (md_pS_p _ _ _ _ _ _) | exact ((md_pS_ne _ _ _ _ _ _ (by omega) (by omega)).trans hb) | (rewrite [jk_row_ne _ _ (by omega)]; first | exact jk_row_same _ _ _ | exact (md_pS_m _ _ _ _ _ _) | exact (md_pS_p _ _ _ _ _ _) | exact ((md_pS_ne _ _ _ _ _ _ (by omega) (by omega)).trans hb) | (rewrite [jk_row_ne _ _ (by omega)]; first | exact (md_pS_m _ _ _ _ _ _) | exact (md_pS_p _ _ _ _ _ _) | exact ((md_pS_ne _ _ _ _ _ _ (by omega) (by omega)).trans hb) | rfl))))) rfl rfl rfl (by first | assumption | decide | omega | exact jB_01 _ | exact jB_in _) jw_1869 dX13_runScript_95 rfl ?_
          rw [← jB_t, md_pS_w]
          have hW : (md_w2 Bf ty P0) = true := (by first | (unfold md_w2; rw [show (md_x Bf ty P0).1.2 = true by assumption]; rfl) | (unfold md_w2; rw [decide_eq_true (show (md_x Bf ty P0).1.1 < ty by omega), Bool.or_true]))
          rw [show md_pS σ m O (md_x Bf ty P0).1.1 true (md_x Bf ty P0).2 = md_pS σ m O (md_x Bf ty P0).1.1 (md_w2 Bf ty P0) (md_x Bf ty P0).2 by rw [hW]]
          have hzp : md_z (md_pS σ m O (md_x Bf ty P0).1.1 (md_w2 Bf ty P0) (md_x Bf ty P0).2) m := md_z_row (md_z_row hz _ ⟨by omega, by omega, by omega⟩) _ ⟨by omega, by omega, by omega⟩
          have hzp1 : md_z10 (md_pS σ m O (md_x Bf ty P0).1.1 (md_w2 Bf ty P0) (md_x Bf ty P0).2) m := md_z10_row (md_z10_row hz1 _ ⟨by omega, by omega, by omega, by omega⟩) _ ⟨by omega, by omega, by omega, by omega⟩
          refine jk_aload_n (q := 99) dX13_runScript_98 rfl rfl ?_
          refine jk_iconst (q := 100) dX13_runScript_99 rfl ?_
          refine jk_putIR (q := 103) (k := 13) 7 7 rfl (by first | exact hm.1 | exact hm.2.1 _ _ rfl | assumption) (by first | exact jk_row_same _ _ _ | exact (md_pS_m _ _ _ _ _ _) | exact (md_pS_p _ _ _ _ _ _) | exact ((md_pS_ne _ _ _ _ _ _ (by omega) (by omega)).trans hb) | (rewrite [jk_row_ne _ _ (by omega)]; first | exact jk_row_same _ _ _ | exact (md_pS_m _ _ _ _ _ _) | exact (md_pS_p _ _ _ _ _ _) | exact ((md_pS_ne _ _ _ _ _ _ (by omega) (by omega)).trans hb) | (rewrite [jk_row_ne _ _ (by omega)]; first | exact jk_row_same _ _ _ | exact (md_pS_m _ _ _ _ _ _) | exact (md_pS_p _ _ _ _ _ _) | exact ((md_pS_ne _ _ _ _ _ _ (by omega) (by omega)).trans hb) | (rewrite [jk_row_ne _ _ (by omega)]; first | exact jk_row_same _ _ _ | exact (md_pS_m _ _ _ _ _ _) | exact (md_pS_p _ _ _ _ _ _) | exact ((md_pS_ne _ _ _ _ _ _ (by omega) (by omega)).trans hb) | (rewrite [jk_row_ne _ _ (by omega)]; first | exact (md_pS_m _ _ _ _ _ _) | exact (md_pS_p _ _ _ _ _ _) | exact ((md_pS_ne _ _ _ _ _ _ (by omega) (by omega)).trans hb) | rfl))))) rfl rfl rfl jw_1855 dX13_runScript_100 rfl ?_
          rw [md_O2_w]
          refine jk_aload_n (q := 104) dX13_runScript_103 rfl rfl ?_
          refine jk_getIR (q := 107) (k := 13) 21 21 rfl (by first | exact hm.1 | exact hm.2.1 _ _ rfl | assumption) (by first | exact jk_row_same _ _ _ | exact (md_pS_m _ _ _ _ _ _) | exact (md_pS_p _ _ _ _ _ _) | exact ((md_pS_ne _ _ _ _ _ _ (by omega) (by omega)).trans hb) | (rewrite [jk_row_ne _ _ (by omega)]; first | exact jk_row_same _ _ _ | exact (md_pS_m _ _ _ _ _ _) | exact (md_pS_p _ _ _ _ _ _) | exact ((md_pS_ne _ _ _ _ _ _ (by omega) (by omega)).trans hb) | (rewrite [jk_row_ne _ _ (by omega)]; first | exact jk_row_same _ _ _ | exact (md_pS_m _ _ _ _ _ _) | exact (md_pS_p _ _ _ _ _ _) | exact ((md_pS_ne _ _ _ _ _ _ (by omega) (by omega)).trans hb) | (rewrite [jk_row_ne _ _ (by omega)]; first | exact jk_row_same _ _ _ | exact (md_pS_m _ _ _ _ _ _) | exact (md_pS_p _ _ _ _ _ _) | exact ((md_pS_ne _ _ _ _ _ _ (by omega) (by omega)).trans hb) | (rewrite [jk_row_ne _ _ (by omega)]; first | exact (md_pS_m _ _ _ _ _ _) | exact (md_pS_p _ _ _ _ _ _) | exact ((md_pS_ne _ _ _ _ _ _ (by omega) (by omega)).trans hb) | rfl))))) rfl rfl jw_1869 dX13_runScript_104 rfl ?_
          rw [(md_O2_at _ _ _).2.2]
          rw [show jB (md_w2 Bf ty P0) = 1 by rw [hW]; rfl]
          refine jk_ifN_eq (q := 110) (by decide) (by decide) dX13_runScript_107 rfl rfl ?_
          skip
          refine jk_aload_n (q := 111) dX13_runScript_110 rfl rfl ?_
          refine jk_aload_n (q := 112) dX13_runScript_111 rfl rfl ?_
          refine jk_getIR (q := 115) (k := 13) 20 20 rfl (by first | exact hm.1 | exact hm.2.1 _ _ rfl | assumption) (by first | exact jk_row_same _ _ _ | exact (md_pS_m _ _ _ _ _ _) | exact (md_pS_p _ _ _ _ _ _) | exact ((md_pS_ne _ _ _ _ _ _ (by omega) (by omega)).trans hb) | (rewrite [jk_row_ne _ _ (by omega)]; first | exact jk_row_same _ _ _ | exact (md_pS_m _ _ _ _ _ _) | exact (md_pS_p _ _ _ _ _ _) | exact ((md_pS_ne _ _ _ _ _ _ (by omega) (by omega)).trans hb) | (rewrite [jk_row_ne _ _ (by omega)]; first | exact jk_row_same _ _ _ | exact (md_pS_m _ _ _ _ _ _) | exact (md_pS_p _ _ _ _ _ _) | exact ((md_pS_ne _ _ _ _ _ _ (by omega) (by omega)).trans hb) | (rewrite [jk_row_ne _ _ (by omega)]; first | exact jk_row_same _ _ _ | exact (md_pS_m _ _ _ _ _ _) | exact (md_pS_p _ _ _ _ _ _) | exact ((md_pS_ne _ _ _ _ _ _ (by omega) (by omega)).trans hb) | (rewrite [jk_row_ne _ _ (by omega)]; first | exact (md_pS_m _ _ _ _ _ _) | exact (md_pS_p _ _ _ _ _ _) | exact ((md_pS_ne _ _ _ _ _ _ (by omega) (by omega)).trans hb) | rfl))))) rfl rfl jw_1868 dX13_runScript_112 rfl ?_
          rw [(md_O2_at _ _ _).2.1]
          refine jk_putIR (q := 118) (k := 13) 8 8 rfl (by first | exact hm.1 | exact hm.2.1 _ _ rfl | assumption) (by first | exact jk_row_same _ _ _ | exact (md_pS_m _ _ _ _ _ _) | exact (md_pS_p _ _ _ _ _ _) | exact ((md_pS_ne _ _ _ _ _ _ (by omega) (by omega)).trans hb) | (rewrite [jk_row_ne _ _ (by omega)]; first | exact jk_row_same _ _ _ | exact (md_pS_m _ _ _ _ _ _) | exact (md_pS_p _ _ _ _ _ _) | exact ((md_pS_ne _ _ _ _ _ _ (by omega) (by omega)).trans hb) | (rewrite [jk_row_ne _ _ (by omega)]; first | exact jk_row_same _ _ _ | exact (md_pS_m _ _ _ _ _ _) | exact (md_pS_p _ _ _ _ _ _) | exact ((md_pS_ne _ _ _ _ _ _ (by omega) (by omega)).trans hb) | (rewrite [jk_row_ne _ _ (by omega)]; first | exact jk_row_same _ _ _ | exact (md_pS_m _ _ _ _ _ _) | exact (md_pS_p _ _ _ _ _ _) | exact ((md_pS_ne _ _ _ _ _ _ (by omega) (by omega)).trans hb) | (rewrite [jk_row_ne _ _ (by omega)]; first | exact (md_pS_m _ _ _ _ _ _) | exact (md_pS_p _ _ _ _ _ _) | exact ((md_pS_ne _ _ _ _ _ _ (by omega) (by omega)).trans hb) | rfl))))) rfl rfl rfl jw_1856 dX13_runScript_115 rfl ?_
          skip
          refine jk_aload_n (q := 119) dX13_runScript_118 rfl rfl ?_
          refine jk_iconst (q := 120) dX13_runScript_119 rfl ?_
          refine jk_cV1p (q := 123) (c_X13_fails hm (jk_row_same _ _ _)) jm_X13_fails jw_1937 rfl (by first | exact hm.1 | exact hm.2.1 _ _ rfl | assumption) rfl rfl rfl dX13_runScript_120 rfl ?_
          exact jk_iret rfl dX13_runScript_123 (by exact md_rq (v := 0) (O' := jk_set (jk_set (md_O2 O (md_x Bf ty P0).1.1 (md_w2 Bf ty P0)) 8 (md_x Bf ty P0).1.1) 12 1) (g' := g) (b' := b) (h' := h) (by unfold md_rs5; rw [if_pos hW]) (by unfold md_th; (repeat first | rewrite [jk_row_same] | rewrite [jk_row_ne _ _ (by omega)]); rfl) (by unfold md_th; (repeat first | rewrite [jk_row_same] | rewrite [jk_row_ne _ _ (by omega)]); exact (md_pS_ne _ _ _ _ _ _ (by omega) (by omega)).trans hg) (by unfold md_th; (repeat first | rewrite [jk_row_same] | rewrite [jk_row_ne _ _ (by omega)]); exact (md_pS_ne _ _ _ _ _ _ (by omega) (by omega)).trans hb4) (by unfold md_th; (repeat first | rewrite [jk_row_same] | rewrite [jk_row_ne _ _ (by omega)]); exact (md_pS_ne _ _ _ _ _ _ (by omega) (by omega)).trans hh) (by unfold md_th; (repeat first | rewrite [jk_row_same] | rewrite [jk_row_ne _ _ (by omega)]); exact md_pS_p _ _ _ _ _ _) (fun a h1 h2 h3 h4 h5 h6 => by unfold md_th; rw [jk_row_ne _ _ h2, jk_row_ne _ _ h2, jk_row_ne _ _ h2]; exact md_pS_ne _ _ _ _ _ _ h2 h6) (by unfold md_th; exact md_z_row (md_z_row (md_z_row hzp _ ⟨by omega, by omega, by omega⟩) _ ⟨by omega, by omega, by omega⟩) _ ⟨by omega, by omega, by omega⟩) (by unfold md_th; exact md_z10_row (md_z10_row (md_z10_row hzp1 _ ⟨by omega, by omega, by omega, by omega⟩) _ ⟨by omega, by omega, by omega, by omega⟩) _ ⟨by omega, by omega, by omega, by omega⟩))
    · have h2j := md_sn_2j (Bf := Bf) (ty := ty) (P0 := P0) k14 (hmo ▸ (by assumption)) hearly
      have hk31 : k14 ≤ 30 := by have := hsn.1.2; omega
      have hcm := md_cmd_ok hB hty2 (5 * (k14 : Int)) (s := (md_sn Bf ty P0 k14).1.1) (md_sn Bf ty P0 k14).1.2 hsn.1
      have hhe := md_he_bd (Bf := Bf) hB hty2 hcm.1
      have hhz : -1 ≤ (md_he Bf ty (md_cmd Bf ty (5 * (k14 : Int)) ((md_sn Bf ty P0 k14).1.1.1, (md_sn Bf ty P0 k14).1.1.2) (md_sn Bf ty P0 k14).1.2).1.1) ∧ (md_he Bf ty (md_cmd Bf ty (5 * (k14 : Int)) ((md_sn Bf ty P0 k14).1.1.1, (md_sn Bf ty P0 k14).1.1.2) (md_sn Bf ty P0 k14).1.2).1.1) < 65536 := ⟨hhe.1, hhe.2.1⟩
      have hhi : jk_in (md_he Bf ty (md_cmd Bf ty (5 * (k14 : Int)) ((md_sn Bf ty P0 k14).1.1.1, (md_sn Bf ty P0 k14).1.1.2) (md_sn Bf ty P0 k14).1.2).1.1) := ⟨by omega, by omega⟩
      refine jk_aload_n (q := 19) dX13_runScript_18 rfl rfl ?_
      refine jk_iconst (q := 20) dX13_runScript_19 rfl ?_
      refine jk_iload_n (q := 21) dX13_runScript_20 rfl rfl ?_
      refine jk_imul (q := 22) dX13_runScript_21 rfl ?_
      refine jk_cV1v (q := 25) (c_X13_parsesCommand (σ := σ) (O := O) (P := (md_sn Bf ty P0 k14).1.2) (w := (md_sn Bf ty P0 k14).1.1.2) (sp := (md_sn Bf ty P0 k14).1.1.1) (Bf := Bf) (ty := ty) hm hb hB hty hty2 hsn.1 ⟨by omega, by omega⟩) jm_X13_parsesCommand jw_2380 rfl (by first | exact hm.1 | exact hm.2.1 _ _ rfl | assumption) rfl rfl rfl dX13_runScript_22 rfl ?_
      refine jk_iinc1 (q := 28) dX13_runScript_25 rfl rfl rfl ?_
      refine jk_aload_n (q := 29) dX13_runScript_28 rfl rfl ?_
      refine jk_getIR (q := 32) (k := 13) 21 21 rfl (by first | exact hm.1 | exact hm.2.1 _ _ rfl | assumption) (by first | exact jk_row_same _ _ _ | exact (md_pS_m _ _ _ _ _ _) | exact (md_pS_p _ _ _ _ _ _) | exact ((md_pS_ne _ _ _ _ _ _ (by omega) (by omega)).trans hb) | (rewrite [jk_row_ne _ _ (by omega)]; first | exact jk_row_same _ _ _ | exact (md_pS_m _ _ _ _ _ _) | exact (md_pS_p _ _ _ _ _ _) | exact ((md_pS_ne _ _ _ _ _ _ (by omega) (by omega)).trans hb) | (rewrite [jk_row_ne _ _ (by omega)]; first | exact jk_row_same _ _ _ | exact (md_pS_m _ _ _ _ _ _) | exact (md_pS_p _ _ _ _ _ _) | exact ((md_pS_ne _ _ _ _ _ _ (by omega) (by omega)).trans hb) | (rewrite [jk_row_ne _ _ (by omega)]; first | exact jk_row_same _ _ _ | exact (md_pS_m _ _ _ _ _ _) | exact (md_pS_p _ _ _ _ _ _) | exact ((md_pS_ne _ _ _ _ _ _ (by omega) (by omega)).trans hb) | (rewrite [jk_row_ne _ _ (by omega)]; first | exact (md_pS_m _ _ _ _ _ _) | exact (md_pS_p _ _ _ _ _ _) | exact ((md_pS_ne _ _ _ _ _ _ (by omega) (by omega)).trans hb) | rfl))))) rfl rfl jw_1869 dX13_runScript_29 rfl ?_
      rw [jk_set_at]
      refine jk_ifB_ne (q := 48) (q2 := 35) dX13_runScript_32 rfl rfl (fun h6 => ?_) (fun h6 => ?_)
      · refine jk_iconst (q := 49) dX13_runScript_48 rfl ?_
        refine jk_istore2 (q := 50) dX13_runScript_49 rfl rfl rfl ?_
        refine jk_aload_n (q := 51) dX13_runScript_50 rfl rfl ?_
        refine jk_dup (q := 52) dX13_runScript_51 rfl rfl ?_
        refine jk_getIR (q := 55) (k := 13) 20 20 rfl (by first | exact hm.1 | exact hm.2.1 _ _ rfl | assumption) (by first | exact jk_row_same _ _ _ | exact (md_pS_m _ _ _ _ _ _) | exact (md_pS_p _ _ _ _ _ _) | exact ((md_pS_ne _ _ _ _ _ _ (by omega) (by omega)).trans hb) | (rewrite [jk_row_ne _ _ (by omega)]; first | exact jk_row_same _ _ _ | exact (md_pS_m _ _ _ _ _ _) | exact (md_pS_p _ _ _ _ _ _) | exact ((md_pS_ne _ _ _ _ _ _ (by omega) (by omega)).trans hb) | (rewrite [jk_row_ne _ _ (by omega)]; first | exact jk_row_same _ _ _ | exact (md_pS_m _ _ _ _ _ _) | exact (md_pS_p _ _ _ _ _ _) | exact ((md_pS_ne _ _ _ _ _ _ (by omega) (by omega)).trans hb) | (rewrite [jk_row_ne _ _ (by omega)]; first | exact jk_row_same _ _ _ | exact (md_pS_m _ _ _ _ _ _) | exact (md_pS_p _ _ _ _ _ _) | exact ((md_pS_ne _ _ _ _ _ _ (by omega) (by omega)).trans hb) | (rewrite [jk_row_ne _ _ (by omega)]; first | exact (md_pS_m _ _ _ _ _ _) | exact (md_pS_p _ _ _ _ _ _) | exact ((md_pS_ne _ _ _ _ _ _ (by omega) (by omega)).trans hb) | rfl))))) rfl rfl jw_1868 dX13_runScript_52 rfl ?_
        rw [md_f20]
        refine jk_iload_n (q := 56) dX13_runScript_55 rfl rfl ?_
        refine jk_ifT_eq (q := 63) (by decide) (by decide) dX13_runScript_56 rfl ?_
        refine jk_iconst (q := 64) dX13_runScript_63 rfl ?_
        refine jk_iadd (q := 65) dX13_runScript_64 rfl ?_
        refine jk_putIR (q := 68) (k := 13) 20 20 rfl (by first | exact hm.1 | exact hm.2.1 _ _ rfl | assumption) (by first | exact jk_row_same _ _ _ | exact (md_pS_m _ _ _ _ _ _) | exact (md_pS_p _ _ _ _ _ _) | exact ((md_pS_ne _ _ _ _ _ _ (by omega) (by omega)).trans hb) | (rewrite [jk_row_ne _ _ (by omega)]; first | exact jk_row_same _ _ _ | exact (md_pS_m _ _ _ _ _ _) | exact (md_pS_p _ _ _ _ _ _) | exact ((md_pS_ne _ _ _ _ _ _ (by omega) (by omega)).trans hb) | (rewrite [jk_row_ne _ _ (by omega)]; first | exact jk_row_same _ _ _ | exact (md_pS_m _ _ _ _ _ _) | exact (md_pS_p _ _ _ _ _ _) | exact ((md_pS_ne _ _ _ _ _ _ (by omega) (by omega)).trans hb) | (rewrite [jk_row_ne _ _ (by omega)]; first | exact jk_row_same _ _ _ | exact (md_pS_m _ _ _ _ _ _) | exact (md_pS_p _ _ _ _ _ _) | exact ((md_pS_ne _ _ _ _ _ _ (by omega) (by omega)).trans hb) | (rewrite [jk_row_ne _ _ (by omega)]; first | exact (md_pS_m _ _ _ _ _ _) | exact (md_pS_p _ _ _ _ _ _) | exact ((md_pS_ne _ _ _ _ _ _ (by omega) (by omega)).trans hb) | rfl))))) rfl rfl rfl jw_1868 dX13_runScript_65 rfl ?_
        rw [md_pS_sp]
        refine jk_goto (q := 14) dX13_runScript_68 rfl ?_
        have hmo2 : md_mo Bf ty (md_cmd Bf ty (5 * (k14 : Int)) (md_sn Bf ty P0 k14).1.1 (md_sn Bf ty P0 k14).1.2) = false := (by first | (unfold md_mo; rw [show (md_cmd Bf ty (5 * (k14 : Int)) (md_sn Bf ty P0 k14).1.1 (md_sn Bf ty P0 k14).1.2).1.2 = true by assumption]; rfl) | (unfold md_mo; rw [decide_eq_false (by assumption), Bool.and_false]))
        have hmt : (md_sn Bf ty P0 k14).2 = true := hmo ▸ (by assumption : mo = true)
        refine jk_conv (ih14 (by omega) false hmo2.symm (fun i hi => ?_) ?_) rfl ?_
        · by_cases hi2 : i < k14
          · exact hearly i hi2
          · rw [show i = k14 by omega]; exact hmt
        · rw [← hcf, show 40 - k14 = (40 - (k14 + 1)) + 1 by omega]
          conv => rhs; unfold md_cf
          rw [if_neg (by rw [hmt]; decide)]
        · show md_pS σ m O ((md_cmd Bf ty (5 * (k14 : Int)) (md_sn Bf ty P0 k14).1.1 (md_sn Bf ty P0 k14).1.2).1.1 + jB (md_mo Bf ty (md_cmd Bf ty (5 * (k14 : Int)) (md_sn Bf ty P0 k14).1.1 (md_sn Bf ty P0 k14).1.2))) (md_cmd Bf ty (5 * (k14 : Int)) (md_sn Bf ty P0 k14).1.1 (md_sn Bf ty P0 k14).1.2).1.2 (md_cmd Bf ty (5 * (k14 : Int)) (md_sn Bf ty P0 k14).1.1 (md_sn Bf ty P0 k14).1.2).2 = _
          rw [hmo2]; rfl
      · refine jk_aload_n (q := 36) dX13_runScript_35 rfl rfl ?_
        refine jk_cV0p (q := 39) (c_X13_here (σ := σ) (O := O) (Bf := Bf) (ty := ty) hm hb hB hty hty2 hcm) jm_X13_here jw_2384 rfl (by first | exact hm.1 | exact hm.2.1 _ _ rfl | assumption) rfl rfl rfl dX13_runScript_36 rfl ?_
        refine jk_bipush (q := 41) (y := 59) dX13_runScript_39 rfl (by decide) ?_
        refine jk_icmp_ne (q := 48) (q2 := 44) dX13_runScript_41 rfl rfl (by first | assumption | decide | omega | exact jB_01 _ | exact jB_in _) (by first | assumption | decide | omega | exact jB_01 _ | exact jB_in _) (fun h7 => ?_) (fun h7 => ?_)
        · refine jk_iconst (q := 49) dX13_runScript_48 rfl ?_
          refine jk_istore2 (q := 50) dX13_runScript_49 rfl rfl rfl ?_
          refine jk_aload_n (q := 51) dX13_runScript_50 rfl rfl ?_
          refine jk_dup (q := 52) dX13_runScript_51 rfl rfl ?_
          refine jk_getIR (q := 55) (k := 13) 20 20 rfl (by first | exact hm.1 | exact hm.2.1 _ _ rfl | assumption) (by first | exact jk_row_same _ _ _ | exact (md_pS_m _ _ _ _ _ _) | exact (md_pS_p _ _ _ _ _ _) | exact ((md_pS_ne _ _ _ _ _ _ (by omega) (by omega)).trans hb) | (rewrite [jk_row_ne _ _ (by omega)]; first | exact jk_row_same _ _ _ | exact (md_pS_m _ _ _ _ _ _) | exact (md_pS_p _ _ _ _ _ _) | exact ((md_pS_ne _ _ _ _ _ _ (by omega) (by omega)).trans hb) | (rewrite [jk_row_ne _ _ (by omega)]; first | exact jk_row_same _ _ _ | exact (md_pS_m _ _ _ _ _ _) | exact (md_pS_p _ _ _ _ _ _) | exact ((md_pS_ne _ _ _ _ _ _ (by omega) (by omega)).trans hb) | (rewrite [jk_row_ne _ _ (by omega)]; first | exact jk_row_same _ _ _ | exact (md_pS_m _ _ _ _ _ _) | exact (md_pS_p _ _ _ _ _ _) | exact ((md_pS_ne _ _ _ _ _ _ (by omega) (by omega)).trans hb) | (rewrite [jk_row_ne _ _ (by omega)]; first | exact (md_pS_m _ _ _ _ _ _) | exact (md_pS_p _ _ _ _ _ _) | exact ((md_pS_ne _ _ _ _ _ _ (by omega) (by omega)).trans hb) | rfl))))) rfl rfl jw_1868 dX13_runScript_52 rfl ?_
          rw [md_f20]
          refine jk_iload_n (q := 56) dX13_runScript_55 rfl rfl ?_
          refine jk_ifT_eq (q := 63) (by decide) (by decide) dX13_runScript_56 rfl ?_
          refine jk_iconst (q := 64) dX13_runScript_63 rfl ?_
          refine jk_iadd (q := 65) dX13_runScript_64 rfl ?_
          refine jk_putIR (q := 68) (k := 13) 20 20 rfl (by first | exact hm.1 | exact hm.2.1 _ _ rfl | assumption) (by first | exact jk_row_same _ _ _ | exact (md_pS_m _ _ _ _ _ _) | exact (md_pS_p _ _ _ _ _ _) | exact ((md_pS_ne _ _ _ _ _ _ (by omega) (by omega)).trans hb) | (rewrite [jk_row_ne _ _ (by omega)]; first | exact jk_row_same _ _ _ | exact (md_pS_m _ _ _ _ _ _) | exact (md_pS_p _ _ _ _ _ _) | exact ((md_pS_ne _ _ _ _ _ _ (by omega) (by omega)).trans hb) | (rewrite [jk_row_ne _ _ (by omega)]; first | exact jk_row_same _ _ _ | exact (md_pS_m _ _ _ _ _ _) | exact (md_pS_p _ _ _ _ _ _) | exact ((md_pS_ne _ _ _ _ _ _ (by omega) (by omega)).trans hb) | (rewrite [jk_row_ne _ _ (by omega)]; first | exact jk_row_same _ _ _ | exact (md_pS_m _ _ _ _ _ _) | exact (md_pS_p _ _ _ _ _ _) | exact ((md_pS_ne _ _ _ _ _ _ (by omega) (by omega)).trans hb) | (rewrite [jk_row_ne _ _ (by omega)]; first | exact (md_pS_m _ _ _ _ _ _) | exact (md_pS_p _ _ _ _ _ _) | exact ((md_pS_ne _ _ _ _ _ _ (by omega) (by omega)).trans hb) | rfl))))) rfl rfl rfl jw_1868 dX13_runScript_65 rfl ?_
          rw [md_pS_sp]
          refine jk_goto (q := 14) dX13_runScript_68 rfl ?_
          have hmo2 : md_mo Bf ty (md_cmd Bf ty (5 * (k14 : Int)) (md_sn Bf ty P0 k14).1.1 (md_sn Bf ty P0 k14).1.2) = false := (by first | (unfold md_mo; rw [show (md_cmd Bf ty (5 * (k14 : Int)) (md_sn Bf ty P0 k14).1.1 (md_sn Bf ty P0 k14).1.2).1.2 = true by assumption]; rfl) | (unfold md_mo; rw [decide_eq_false (by assumption), Bool.and_false]))
          have hmt : (md_sn Bf ty P0 k14).2 = true := hmo ▸ (by assumption : mo = true)
          refine jk_conv (ih14 (by omega) false hmo2.symm (fun i hi => ?_) ?_) rfl ?_
          · by_cases hi2 : i < k14
            · exact hearly i hi2
            · rw [show i = k14 by omega]; exact hmt
          · rw [← hcf, show 40 - k14 = (40 - (k14 + 1)) + 1 by omega]
            conv => rhs; unfold md_cf
            rw [if_neg (by rw [hmt]; decide)]
          · show md_pS σ m O ((md_cmd Bf ty (5 * (k14 : Int)) (md_sn Bf ty P0 k14).1.1 (md_sn Bf ty P0 k14).1.2).1.1 + jB (md_mo Bf ty (md_cmd Bf ty (5 * (k14 : Int)) (md_sn Bf ty P0 k14).1.1 (md_sn Bf ty P0 k14).1.2))) (md_cmd Bf ty (5 * (k14 : Int)) (md_sn Bf ty P0 k14).1.1 (md_sn Bf ty P0 k14).1.2).1.2 (md_cmd Bf ty (5 * (k14 : Int)) (md_sn Bf ty P0 k14).1.1 (md_sn Bf ty P0 k14).1.2).2 = _
            rw [hmo2]; rfl
        · refine jk_iconst (q := 45) dX13_runScript_44 rfl ?_
          refine jk_goto (q := 49) dX13_runScript_45 rfl ?_
          refine jk_istore2 (q := 50) dX13_runScript_49 rfl rfl rfl ?_
          refine jk_aload_n (q := 51) dX13_runScript_50 rfl rfl ?_
          refine jk_dup (q := 52) dX13_runScript_51 rfl rfl ?_
          refine jk_getIR (q := 55) (k := 13) 20 20 rfl (by first | exact hm.1 | exact hm.2.1 _ _ rfl | assumption) (by first | exact jk_row_same _ _ _ | exact (md_pS_m _ _ _ _ _ _) | exact (md_pS_p _ _ _ _ _ _) | exact ((md_pS_ne _ _ _ _ _ _ (by omega) (by omega)).trans hb) | (rewrite [jk_row_ne _ _ (by omega)]; first | exact jk_row_same _ _ _ | exact (md_pS_m _ _ _ _ _ _) | exact (md_pS_p _ _ _ _ _ _) | exact ((md_pS_ne _ _ _ _ _ _ (by omega) (by omega)).trans hb) | (rewrite [jk_row_ne _ _ (by omega)]; first | exact jk_row_same _ _ _ | exact (md_pS_m _ _ _ _ _ _) | exact (md_pS_p _ _ _ _ _ _) | exact ((md_pS_ne _ _ _ _ _ _ (by omega) (by omega)).trans hb) | (rewrite [jk_row_ne _ _ (by omega)]; first | exact jk_row_same _ _ _ | exact (md_pS_m _ _ _ _ _ _) | exact (md_pS_p _ _ _ _ _ _) | exact ((md_pS_ne _ _ _ _ _ _ (by omega) (by omega)).trans hb) | (rewrite [jk_row_ne _ _ (by omega)]; first | exact (md_pS_m _ _ _ _ _ _) | exact (md_pS_p _ _ _ _ _ _) | exact ((md_pS_ne _ _ _ _ _ _ (by omega) (by omega)).trans hb) | rfl))))) rfl rfl jw_1868 dX13_runScript_52 rfl ?_
          rw [md_f20]
          refine jk_iload_n (q := 56) dX13_runScript_55 rfl rfl ?_
          refine jk_ifN_eq (q := 59) (by decide) (by decide) dX13_runScript_56 rfl rfl ?_
          refine jk_iconst (q := 60) dX13_runScript_59 rfl ?_
          refine jk_goto (q := 64) dX13_runScript_60 rfl ?_
          refine jk_iadd (q := 65) dX13_runScript_64 rfl ?_
          refine jk_putIR (q := 68) (k := 13) 20 20 rfl (by first | exact hm.1 | exact hm.2.1 _ _ rfl | assumption) (by first | exact jk_row_same _ _ _ | exact (md_pS_m _ _ _ _ _ _) | exact (md_pS_p _ _ _ _ _ _) | exact ((md_pS_ne _ _ _ _ _ _ (by omega) (by omega)).trans hb) | (rewrite [jk_row_ne _ _ (by omega)]; first | exact jk_row_same _ _ _ | exact (md_pS_m _ _ _ _ _ _) | exact (md_pS_p _ _ _ _ _ _) | exact ((md_pS_ne _ _ _ _ _ _ (by omega) (by omega)).trans hb) | (rewrite [jk_row_ne _ _ (by omega)]; first | exact jk_row_same _ _ _ | exact (md_pS_m _ _ _ _ _ _) | exact (md_pS_p _ _ _ _ _ _) | exact ((md_pS_ne _ _ _ _ _ _ (by omega) (by omega)).trans hb) | (rewrite [jk_row_ne _ _ (by omega)]; first | exact jk_row_same _ _ _ | exact (md_pS_m _ _ _ _ _ _) | exact (md_pS_p _ _ _ _ _ _) | exact ((md_pS_ne _ _ _ _ _ _ (by omega) (by omega)).trans hb) | (rewrite [jk_row_ne _ _ (by omega)]; first | exact (md_pS_m _ _ _ _ _ _) | exact (md_pS_p _ _ _ _ _ _) | exact ((md_pS_ne _ _ _ _ _ _ (by omega) (by omega)).trans hb) | rfl))))) rfl rfl rfl jw_1868 dX13_runScript_65 rfl ?_
          rw [md_pS_sp]
          refine jk_goto (q := 14) dX13_runScript_68 rfl ?_
          have hmo2 : md_mo Bf ty (md_cmd Bf ty (5 * (k14 : Int)) (md_sn Bf ty P0 k14).1.1 (md_sn Bf ty P0 k14).1.2) = true := (by unfold md_mo; rw [show (md_cmd Bf ty (5 * (k14 : Int)) (md_sn Bf ty P0 k14).1.1 (md_sn Bf ty P0 k14).1.2).1.2 = false by assumption, decide_eq_true (by assumption)]; rfl)
          have hmt : (md_sn Bf ty P0 k14).2 = true := hmo ▸ (by assumption : mo = true)
          refine jk_conv (ih14 (by omega) true hmo2.symm (fun i hi => ?_) ?_) rfl ?_
          · by_cases hi2 : i < k14
            · exact hearly i hi2
            · rw [show i = k14 by omega]; exact hmt
          · rw [← hcf, show 40 - k14 = (40 - (k14 + 1)) + 1 by omega]
            conv => rhs; unfold md_cf
            rw [if_neg (by rw [hmt]; decide)]
          · show md_pS σ m O ((md_cmd Bf ty (5 * (k14 : Int)) (md_sn Bf ty P0 k14).1.1 (md_sn Bf ty P0 k14).1.2).1.1 + jB (md_mo Bf ty (md_cmd Bf ty (5 * (k14 : Int)) (md_sn Bf ty P0 k14).1.1 (md_sn Bf ty P0 k14).1.2))) (md_cmd Bf ty (5 * (k14 : Int)) (md_sn Bf ty P0 k14).1.1 (md_sn Bf ty P0 k14).1.2).1.2 (md_cmd Bf ty (5 * (k14 : Int)) (md_sn Bf ty P0 k14).1.1 (md_sn Bf ty P0 k14).1.2).2 = _
            rw [hmo2]; rfl
  exact jk_convw (L14 0 (Nat.zero_le _) true rfl (fun i hi => absurd hi (Nat.not_lt_zero i)) rfl) (jk_wkS rfl (jk_wkS rfl (jk_wkS rfl (jk_wkN (jk_wkN jk_wk0)))))
end MD27
