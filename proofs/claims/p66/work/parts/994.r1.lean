section R1
theorem ln_at_rho {t : jk_T} {ρ ρ' : jk_P} {x : Nat} (h : ln_at t ρ x) (h2 : ∀ a, a ≠ x + 550 + 4 → ρ' a = ρ a) : ln_at t ρ' x := by
  obtain ⟨hx0, ⟨hx1, hx2, hx3, hx4, hx5, hx6, hx7, hx8, hx9, hx10, hx11, hx12⟩, hB4, hSN, hH, hhe, hba, hch, hsc⟩ := h
  have hx : ∀ a, a < x + 554 → t a = t a ∧ ρ' a = ρ a := fun a ha => ⟨rfl, h2 a (by omega)⟩
  have e := h2 x (by omega)
  exact ⟨hx0, ⟨by rw [e]; exact hx1, by rw [e]; exact hx2, by rw [e]; exact hx3, by rw [e]; exact hx4, by rw [e]; exact hx5, by rw [e]; exact hx6, by rw [e]; exact hx7, by rw [e]; exact hx8, by rw [e]; exact hx9, by rw [e]; exact hx10, by rw [e]; exact hx11, by rw [e]; exact hx12⟩, cl_at_ext hx (by omega) hB4, cl_at_ext hx (by omega) hSN, hs_at_ext hx (by omega) hH, he_at_ext hx (by omega) hhe, ba_at_ext hx (by omega) hba, ch_at_ext hx (by omega) hch, sc_at_rho hsc h2⟩
/-- the script's commands, as read puts them down -/
def cm_is (σ : jk_I) (ρ : jk_P) (q : Nat) (P : Int → Int) (N : Nat) (kd : Nat → Nat) : Prop := ∀ i, i < N → kd i < 12 ∧ ρ (q + 4) (i : Int) = some (kd i) ∧ ∀ g, md_do P (5 * (i : Int)) g = cl_do (kd i) g (σ (q + (8 + 2 * i)) 0) (σ (q + (8 + 2 * i)) 1) (σ (q + (8 + 2 * i)) 2) (σ (q + (8 + 2 * i)) 3)
def ln_fd (x : Nat) (σ σ' : jk_I) : Prop := ∀ a, (a < x + 2 ∨ x + 46 < a) → (a < x + 512 ∨ x + 546 ≤ a) → σ' a = σ a
def ff_Q (B9 : Int) (x N : Nat) (P g : Int → Int) (σ : jk_I) (n : Nat) (t : jk_T) (ρ : jk_P) : jk_Q := fun v' n' t' σ' ρ' => v' = some (jI (jk_fnd (md_fP P g) N)) ∧ n' = n ∧ t' = t ∧ ρ' = ρ ∧ (jk_fnd (md_fP P g) N = -1 → cl_rel σ' (x + 2) (md_gk P g N) ∧ md_all (B9 + 85 * (N : Int)) (md_gk P g N)) ∧ cl_nn σ' (x + 2) ∧ ln_fd x σ σ'
theorem c_X12_firstFailure {G : jk_G} {n : Nat} {t : jk_T} {σ : jk_I} {ρ : jk_P} {x : Nat} {g : Int → Int} {B : Int} {P : Int → Int} {N : Nat} {kd : Nat → Nat} (hz : zz_ok G) (hx : zx_ok G) (hln : ln_at t ρ x) (hr : cl_rel σ (x + 2) g) (ha : md_all B g) (hnn : cl_nn σ (x + 2)) (hsi : md_sit g) (hN : N ≤ 10) (hB : B ≤ 1000000) (hcn : σ (x + 550) 3 = (N : Int)) (hcm : cm_is σ ρ (x + 550) P N kd) (hbd : ∀ i, i < 10 → cs_bd (σ (x + 550 + (8 + 2 * i)))) : jk_K G yX12_firstFailure mX12_firstFailure 0 0 [.ref x] n t σ ρ (ff_Q B x N P g σ n t ρ) jk_no := by
  obtain ⟨hx0, ⟨hx1, hx2, hx3, hx4, hx5, hx6, hx7, hx8, hx9, hx10, hx11, hx12⟩, hB4, hSN, hH, hhe, hba, hch, hsc⟩ := id hln
  obtain ⟨hcc, hwa, hsh, hwy, hyc⟩ := id hch
  obtain ⟨-, -, hfo, hfw⟩ := id hwa
  obtain ⟨-, -, -, -, hs, hsf⟩ := id hfo
  have hi := ha.1
  have hw := ha.2.1
  have hxx := ha.2.2.1
  have i0 := hi.1
  have i1 := hi.2.1
  have i2 := hi.2.2.1
  have i3 := hi.2.2.2.1
  obtain ⟨q0, q1, q2, q3⟩ := hr.1
  have hf0 : ln_fr x σ σ := fun _ _ => rfl
  refine jk_entryB (ls := [some (.ref x), none, none, none]) jm_X12_firstFailure.1 rfl rfl rfl ?_
  refine jk_iconst (q := 1) dX12_firstFailure_0 rfl ?_
  refine jk_istore1 (q := 2) dX12_firstFailure_1 rfl rfl rfl ?_
  have L2 : ∀ k2 : Nat, k2 ≤ N → ∀ (σ1 : jk_I), (h0 : jk_fnd (md_fP P g) k2 = -1) → (hr1 : cl_rel σ1 (x + 2) (md_gk P g k2)) → (ha1 : md_all (B + 85 * (k2 : Int)) (md_gk P g k2)) → (hnn1 : cl_nn σ1 (x + 2)) → (hf1 : ln_fd x σ σ1) → jk_J G mX12_firstFailure 2 [some (.ref x), some (jI (k2 : Int)), none, none] [] n t σ1 ρ 0 0 (ff_Q B x N P g σ n t ρ) jk_no := by
    refine jk_loop _ (fun k2 hk2 ih2 => ?_)
    intro σ1 h0 hr1 ha1 hnn1 hf1
    have hsq : σ1 (x + 550) = σ (x + 550) := hf1 _ (by omega) (by omega)
    refine jk_iload_n (q := 3) dX12_firstFailure_2 rfl rfl ?_
    refine jk_aload_n (q := 4) dX12_firstFailure_3 rfl rfl ?_
    refine jk_getA (q := 7) (k := 12) 11 11 rfl (by first | exact hx0 | exact hs.1 | exact hs.2.1 _ _ rfl | exact hfo.1 | exact hfo.2.1 _ _ rfl | exact hwa.1.1 | exact hwa.1.2.1 | exact hwa.1.2.2 | exact hsh.1.1 | exact hsh.1.2.1 | exact hhe.1.1 | exact hba.1.1 | exact hcc.1 | exact hH.1 | exact hsc.1.1 | exact hB4.1 | exact hSN.1 | exact hsc.1.2.2.1 | exact hsc.1.2.2.2 | exact (hsc.2.2 k2 (by omega)).1 | assumption) (by first | assumption | exact hs.2.2.1 _ _ rfl | exact hfo.2.2.1 _ _ rfl | exact hwa.2.1.2.2.1 | exact hsh.2.1.2.1 | exact hsc.2.1.2.1 | exact hsc.2.1.2.2 | exact (hsc.2.2 k2 (by omega)).2 | exact (hcm k2 (by omega)).2.1) rfl rfl jw_386 dX12_firstFailure_4 rfl ?_
    refine jk_getIR (q := 10) (k := 7) 3 3 rfl (by first | exact hx0 | exact hs.1 | exact hs.2.1 _ _ rfl | exact hfo.1 | exact hfo.2.1 _ _ rfl | exact hwa.1.1 | exact hwa.1.2.1 | exact hwa.1.2.2 | exact hsh.1.1 | exact hsh.1.2.1 | exact hhe.1.1 | exact hba.1.1 | exact hcc.1 | exact hH.1 | exact hsc.1.1 | exact hB4.1 | exact hSN.1 | exact hsc.1.2.2.1 | exact hsc.1.2.2.2 | exact (hsc.2.2 k2 (by omega)).1 | assumption) (by first | exact jk_row_same _ _ _ | ((repeat rewrite [jk_row_ne _ _ (by omega)]); first | exact jk_row_same _ _ _ | exact hsq | exact hrow | exact hrow2 | rfl)) rfl rfl jw_323 dX12_firstFailure_7 rfl ?_
    rw [hcn]
    refine jk_icmp_ge (q := 92) (q2 := 13) dX12_firstFailure_10 rfl rfl (by first | assumption | decide | omega | exact jB_01 _ | exact jB_in _ | exact ⟨by omega, by omega⟩) (by first | assumption | decide | omega | exact jB_01 _ | exact jB_in _ | exact ⟨by omega, by omega⟩) (fun z1 => ?_) (fun z1 => ?_)
    · refine jk_iconst (q := 93) dX12_firstFailure_92 rfl ?_
      exact jk_iret rfl dX12_firstFailure_93 (by 
              obtain rfl : k2 = N := by omega
              unfold ff_Q
              rw [h0]
              exact ⟨rfl, rfl, rfl, rfl, fun _ => ⟨hr1, ha1⟩, hnn1, hf1⟩)
    · have hk10 : k2 < 10 := by omega
      have hb9 := hbd k2 hk10
      have hkd := (hcm k2 (by omega)).1
      have ecl := (hcm k2 (by omega)).2.2 (md_gk P g k2)
      have hrow : σ1 (x + 550 + (8 + 2 * k2)) = σ (x + 550 + (8 + 2 * k2)) := hf1 _ (by omega) (by omega)
      have hi1 := ha1.1
      have i21 := hi1.2.2.1
      have htb := cl_tc_bd (kd k2) (cl_do_bd (kd k2) (md_gk P g k2) (σ (x + 550 + (8 + 2 * k2)) 0) (σ (x + 550 + (8 + 2 * k2)) 1) (σ (x + 550 + (8 + 2 * k2)) 2) (σ (x + 550 + (8 + 2 * k2)) 3))
      refine jk_aload_n (q := 14) dX12_firstFailure_13 rfl rfl ?_
      refine jk_getA (q := 17) (k := 12) 11 11 rfl (by first | exact hx0 | exact hs.1 | exact hs.2.1 _ _ rfl | exact hfo.1 | exact hfo.2.1 _ _ rfl | exact hwa.1.1 | exact hwa.1.2.1 | exact hwa.1.2.2 | exact hsh.1.1 | exact hsh.1.2.1 | exact hhe.1.1 | exact hba.1.1 | exact hcc.1 | exact hH.1 | exact hsc.1.1 | exact hB4.1 | exact hSN.1 | exact hsc.1.2.2.1 | exact hsc.1.2.2.2 | exact (hsc.2.2 k2 (by omega)).1 | assumption) (by first | assumption | exact hs.2.2.1 _ _ rfl | exact hfo.2.2.1 _ _ rfl | exact hwa.2.1.2.2.1 | exact hsh.2.1.2.1 | exact hsc.2.1.2.1 | exact hsc.2.1.2.2 | exact (hsc.2.2 k2 (by omega)).2 | exact (hcm k2 (by omega)).2.1) rfl rfl jw_386 dX12_firstFailure_14 rfl ?_
      refine jk_getA (q := 20) (k := 7) 4 4 rfl (by first | exact hx0 | exact hs.1 | exact hs.2.1 _ _ rfl | exact hfo.1 | exact hfo.2.1 _ _ rfl | exact hwa.1.1 | exact hwa.1.2.1 | exact hwa.1.2.2 | exact hsh.1.1 | exact hsh.1.2.1 | exact hhe.1.1 | exact hba.1.1 | exact hcc.1 | exact hH.1 | exact hsc.1.1 | exact hB4.1 | exact hSN.1 | exact hsc.1.2.2.1 | exact hsc.1.2.2.2 | exact (hsc.2.2 k2 (by omega)).1 | assumption) (by first | assumption | exact hs.2.2.1 _ _ rfl | exact hfo.2.2.1 _ _ rfl | exact hwa.2.1.2.2.1 | exact hsh.2.1.2.1 | exact hsc.2.1.2.1 | exact hsc.2.1.2.2 | exact (hsc.2.2 k2 (by omega)).2 | exact (hcm k2 (by omega)).2.1) rfl rfl jw_325 dX12_firstFailure_17 rfl ?_
      refine jk_iload_n (q := 21) dX12_firstFailure_20 rfl rfl ?_
      refine jk_aald (q := 22) (ty := .object "LevelingNetwork$Kind") rfl rfl (by first | exact hx0 | exact hs.1 | exact hs.2.1 _ _ rfl | exact hfo.1 | exact hfo.2.1 _ _ rfl | exact hwa.1.1 | exact hwa.1.2.1 | exact hwa.1.2.2 | exact hsh.1.1 | exact hsh.1.2.1 | exact hhe.1.1 | exact hba.1.1 | exact hcc.1 | exact hH.1 | exact hsc.1.1 | exact hB4.1 | exact hSN.1 | exact hsc.1.2.2.1 | exact hsc.1.2.2.2 | exact (hsc.2.2 k2 (by omega)).1 | assumption) (by first | assumption | decide | omega | exact jB_01 _ | exact jB_in _ | exact ⟨by omega, by omega⟩) (by first | assumption | exact hs.2.2.1 _ _ rfl | exact hfo.2.2.1 _ _ rfl | exact hwa.2.1.2.2.1 | exact hsh.2.1.2.1 | exact hsc.2.1.2.1 | exact hsc.2.1.2.2 | exact (hsc.2.2 k2 (by omega)).2 | exact (hcm k2 (by omega)).2.1) dX12_firstFailure_21 rfl ?_
      refine jk_astore2 (q := 23) dX12_firstFailure_22 rfl rfl rfl ?_
      refine jk_aload_n (q := 24) dX12_firstFailure_23 rfl rfl ?_
      refine jk_getA (q := 27) (k := 12) 11 11 rfl (by first | exact hx0 | exact hs.1 | exact hs.2.1 _ _ rfl | exact hfo.1 | exact hfo.2.1 _ _ rfl | exact hwa.1.1 | exact hwa.1.2.1 | exact hwa.1.2.2 | exact hsh.1.1 | exact hsh.1.2.1 | exact hhe.1.1 | exact hba.1.1 | exact hcc.1 | exact hH.1 | exact hsc.1.1 | exact hB4.1 | exact hSN.1 | exact hsc.1.2.2.1 | exact hsc.1.2.2.2 | exact (hsc.2.2 k2 (by omega)).1 | assumption) (by first | assumption | exact hs.2.2.1 _ _ rfl | exact hfo.2.2.1 _ _ rfl | exact hwa.2.1.2.2.1 | exact hsh.2.1.2.1 | exact hsc.2.1.2.1 | exact hsc.2.1.2.2 | exact (hsc.2.2 k2 (by omega)).2 | exact (hcm k2 (by omega)).2.1) rfl rfl jw_386 dX12_firstFailure_24 rfl ?_
      refine jk_getA (q := 30) (k := 7) 5 5 rfl (by first | exact hx0 | exact hs.1 | exact hs.2.1 _ _ rfl | exact hfo.1 | exact hfo.2.1 _ _ rfl | exact hwa.1.1 | exact hwa.1.2.1 | exact hwa.1.2.2 | exact hsh.1.1 | exact hsh.1.2.1 | exact hhe.1.1 | exact hba.1.1 | exact hcc.1 | exact hH.1 | exact hsc.1.1 | exact hB4.1 | exact hSN.1 | exact hsc.1.2.2.1 | exact hsc.1.2.2.2 | exact (hsc.2.2 k2 (by omega)).1 | assumption) (by first | assumption | exact hs.2.2.1 _ _ rfl | exact hfo.2.2.1 _ _ rfl | exact hwa.2.1.2.2.1 | exact hsh.2.1.2.1 | exact hsc.2.1.2.1 | exact hsc.2.1.2.2 | exact (hsc.2.2 k2 (by omega)).2 | exact (hcm k2 (by omega)).2.1) rfl rfl jw_327 dX12_firstFailure_27 rfl ?_
      refine jk_iload_n (q := 31) dX12_firstFailure_30 rfl rfl ?_
      refine jk_aald (q := 32) (ty := .array .int) rfl rfl (by first | exact hx0 | exact hs.1 | exact hs.2.1 _ _ rfl | exact hfo.1 | exact hfo.2.1 _ _ rfl | exact hwa.1.1 | exact hwa.1.2.1 | exact hwa.1.2.2 | exact hsh.1.1 | exact hsh.1.2.1 | exact hhe.1.1 | exact hba.1.1 | exact hcc.1 | exact hH.1 | exact hsc.1.1 | exact hB4.1 | exact hSN.1 | exact hsc.1.2.2.1 | exact hsc.1.2.2.2 | exact (hsc.2.2 k2 (by omega)).1 | assumption) (by first | assumption | decide | omega | exact jB_01 _ | exact jB_in _ | exact ⟨by omega, by omega⟩) (by first | assumption | exact hs.2.2.1 _ _ rfl | exact hfo.2.2.1 _ _ rfl | exact hwa.2.1.2.2.1 | exact hsh.2.1.2.1 | exact hsc.2.1.2.1 | exact hsc.2.1.2.2 | exact (hsc.2.2 k2 (by omega)).2 | exact (hcm k2 (by omega)).2.1) dX12_firstFailure_31 rfl ?_
      refine jk_astore3 (q := 33) dX12_firstFailure_32 rfl rfl rfl ?_
      refine jk_aload_n (q := 34) dX12_firstFailure_33 rfl rfl ?_
      refine jk_ifnull (q := 37) dX12_firstFailure_34 rfl ?_
      refine jk_aload_n (q := 38) dX12_firstFailure_37 rfl rfl ?_
      refine jk_getA (q := 41) (k := 12) 10 10 rfl (by first | exact hx0 | exact hs.1 | exact hs.2.1 _ _ rfl | exact hfo.1 | exact hfo.2.1 _ _ rfl | exact hwa.1.1 | exact hwa.1.2.1 | exact hwa.1.2.2 | exact hsh.1.1 | exact hsh.1.2.1 | exact hhe.1.1 | exact hba.1.1 | exact hcc.1 | exact hH.1 | exact hsc.1.1 | exact hB4.1 | exact hSN.1 | exact hsc.1.2.2.1 | exact hsc.1.2.2.2 | exact (hsc.2.2 k2 (by omega)).1 | assumption) (by first | assumption | exact hs.2.2.1 _ _ rfl | exact hfo.2.2.1 _ _ rfl | exact hwa.2.1.2.2.1 | exact hsh.2.1.2.1 | exact hsc.2.1.2.1 | exact hsc.2.1.2.2 | exact (hsc.2.2 k2 (by omega)).2 | exact (hcm k2 (by omega)).2.1) rfl rfl jw_385 dX12_firstFailure_38 rfl ?_
      refine jk_aload_n (q := 42) dX12_firstFailure_41 rfl rfl ?_
      refine jk_aload_n (q := 43) dX12_firstFailure_42 rfl rfl ?_
      refine jk_iconst (q := 44) dX12_firstFailure_43 rfl ?_
      refine jk_ialdR (q := 45) (by first | exact hx0 | exact hs.1 | exact hs.2.1 _ _ rfl | exact hfo.1 | exact hfo.2.1 _ _ rfl | exact hwa.1.1 | exact hwa.1.2.1 | exact hwa.1.2.2 | exact hsh.1.1 | exact hsh.1.2.1 | exact hhe.1.1 | exact hba.1.1 | exact hcc.1 | exact hH.1 | exact hsc.1.1 | exact hB4.1 | exact hSN.1 | exact hsc.1.2.2.1 | exact hsc.1.2.2.2 | exact (hsc.2.2 k2 (by omega)).1 | assumption) (by first | exact jk_row_same _ _ _ | ((repeat rewrite [jk_row_ne _ _ (by omega)]); first | exact jk_row_same _ _ _ | exact hsq | exact hrow | exact hrow2 | rfl)) (by first | assumption | decide | omega | exact jB_01 _ | exact jB_in _ | exact ⟨by omega, by omega⟩) dX12_firstFailure_44 rfl ?_
      refine jk_aload_n (q := 46) dX12_firstFailure_45 rfl rfl ?_
      refine jk_iconst (q := 47) dX12_firstFailure_46 rfl ?_
      refine jk_ialdR (q := 48) (by first | exact hx0 | exact hs.1 | exact hs.2.1 _ _ rfl | exact hfo.1 | exact hfo.2.1 _ _ rfl | exact hwa.1.1 | exact hwa.1.2.1 | exact hwa.1.2.2 | exact hsh.1.1 | exact hsh.1.2.1 | exact hhe.1.1 | exact hba.1.1 | exact hcc.1 | exact hH.1 | exact hsc.1.1 | exact hB4.1 | exact hSN.1 | exact hsc.1.2.2.1 | exact hsc.1.2.2.2 | exact (hsc.2.2 k2 (by omega)).1 | assumption) (by first | exact jk_row_same _ _ _ | ((repeat rewrite [jk_row_ne _ _ (by omega)]); first | exact jk_row_same _ _ _ | exact hsq | exact hrow | exact hrow2 | rfl)) (by first | assumption | decide | omega | exact jB_01 _ | exact jB_in _ | exact ⟨by omega, by omega⟩) dX12_firstFailure_47 rfl ?_
      refine jk_aload_n (q := 49) dX12_firstFailure_48 rfl rfl ?_
      refine jk_iconst (q := 50) dX12_firstFailure_49 rfl ?_
      refine jk_ialdR (q := 51) (by first | exact hx0 | exact hs.1 | exact hs.2.1 _ _ rfl | exact hfo.1 | exact hfo.2.1 _ _ rfl | exact hwa.1.1 | exact hwa.1.2.1 | exact hwa.1.2.2 | exact hsh.1.1 | exact hsh.1.2.1 | exact hhe.1.1 | exact hba.1.1 | exact hcc.1 | exact hH.1 | exact hsc.1.1 | exact hB4.1 | exact hSN.1 | exact hsc.1.2.2.1 | exact hsc.1.2.2.2 | exact (hsc.2.2 k2 (by omega)).1 | assumption) (by first | exact jk_row_same _ _ _ | ((repeat rewrite [jk_row_ne _ _ (by omega)]); first | exact jk_row_same _ _ _ | exact hsq | exact hrow | exact hrow2 | rfl)) (by first | assumption | decide | omega | exact jB_01 _ | exact jB_in _ | exact ⟨by omega, by omega⟩) dX12_firstFailure_50 rfl ?_
      refine jk_aload_n (q := 52) dX12_firstFailure_51 rfl rfl ?_
      refine jk_iconst (q := 53) dX12_firstFailure_52 rfl ?_
      refine jk_ialdR (q := 54) (by first | exact hx0 | exact hs.1 | exact hs.2.1 _ _ rfl | exact hfo.1 | exact hfo.2.1 _ _ rfl | exact hwa.1.1 | exact hwa.1.2.1 | exact hwa.1.2.2 | exact hsh.1.1 | exact hsh.1.2.1 | exact hhe.1.1 | exact hba.1.1 | exact hcc.1 | exact hH.1 | exact hsc.1.1 | exact hB4.1 | exact hSN.1 | exact hsc.1.2.2.1 | exact hsc.1.2.2.2 | exact (hsc.2.2 k2 (by omega)).1 | assumption) (by first | exact jk_row_same _ _ _ | ((repeat rewrite [jk_row_ne _ _ (by omega)]); first | exact jk_row_same _ _ _ | exact hsq | exact hrow | exact hrow2 | rfl)) (by first | assumption | decide | omega | exact jB_01 _ | exact jB_in _ | exact ⟨by omega, by omega⟩) dX12_firstFailure_53 rfl ?_
      refine jk_cV5g (q := 57) (c_X2_troubleWith hz hch hr1 hi1 ha1.2.1 hkd ⟨by have := hb9 0 ⟨by decide, by decide⟩; omega, by have := hb9 0 ⟨by decide, by decide⟩; omega⟩ ⟨by have := hb9 1 ⟨by decide, by decide⟩; omega, by have := hb9 1 ⟨by decide, by decide⟩; omega⟩ ⟨by have := hb9 2 ⟨by decide, by decide⟩; omega, by have := hb9 2 ⟨by decide, by decide⟩; omega⟩ ⟨by have := hb9 3 ⟨by decide, by decide⟩; omega, by have := hb9 3 ⟨by decide, by decide⟩; omega⟩) jm_X2_troubleWith jw_431 rfl (by first | exact hx0 | exact hs.1 | exact hs.2.1 _ _ rfl | exact hfo.1 | exact hfo.2.1 _ _ rfl | exact hwa.1.1 | exact hwa.1.2.1 | exact hwa.1.2.2 | exact hsh.1.1 | exact hsh.1.2.1 | exact hhe.1.1 | exact hba.1.1 | exact hcc.1 | exact hH.1 | exact hsc.1.1 | exact hB4.1 | exact hSN.1 | exact hsc.1.2.2.1 | exact hsc.1.2.2.2 | exact (hsc.2.2 k2 (by omega)).1 | assumption) rfl rfl (Nat.zero_le _) (Nat.zero_le _) rfl dX12_firstFailure_54 rfl (fun v' n' t' σ2 ρ' hq => ?_) (fun _ _ _ _ _ h => h.elim)
      obtain ⟨rfl, hn9, ht9, hr9, hp2⟩ := hq
      replace hn9 := hn9.symm; replace ht9 := ht9.symm; replace hr9 := hr9.symm; subst hn9 ht9 hr9
      simp only [Option.toList_some, Option.toList_none, List.cons_append, List.nil_append, Nat.sub_zero]
      have hf2 : ln_fd x σ σ2 := fun a h1 h2 => (hp2 a (by omega)).trans (hf1 a h1 h2)
      have hr2 : cl_rel σ2 (x + 2) (md_gk P g k2) := cl_rel_same i21.2 (fun a h1 h2 => hp2 a (by omega)) hr1
      have hnn2 : cl_nn σ2 (x + 2) := cl_nn_same (fun q hq => hp2 _ (by omega)) hnn1
      have hrow2 : σ2 (x + 550 + (8 + 2 * k2)) = σ (x + 550 + (8 + 2 * k2)) := hf2 _ (by omega) (by omega)
      refine jk_gets (q := 60) (a := 12) (zz_Ts hz (i := 0) (by decide)) jw_1568 dX12_firstFailure_57 rfl ?_
      by_cases z2 : cl_tc (kd k2) (cl_do (kd k2) (md_gk P g k2) (σ (x + 550 + (8 + 2 * k2)) 0) (σ (x + 550 + (8 + 2 * k2)) 1) (σ (x + 550 + (8 + 2 * k2)) 2) (σ (x + 550 + (8 + 2 * k2)) 3)).1 = 0
      · refine jk_acmp_eqT (q := 65) (by rw [z2]) dX12_firstFailure_60 rfl ?_
        have z9 := ‹cl_tc _ _ = 0›
        have h00 := htb.2.mp z9
        refine jk_aload_n (q := 66) dX12_firstFailure_65 rfl rfl ?_
        refine jk_getA (q := 69) (k := 12) 10 10 rfl (by first | exact hx0 | exact hs.1 | exact hs.2.1 _ _ rfl | exact hfo.1 | exact hfo.2.1 _ _ rfl | exact hwa.1.1 | exact hwa.1.2.1 | exact hwa.1.2.2 | exact hsh.1.1 | exact hsh.1.2.1 | exact hhe.1.1 | exact hba.1.1 | exact hcc.1 | exact hH.1 | exact hsc.1.1 | exact hB4.1 | exact hSN.1 | exact hsc.1.2.2.1 | exact hsc.1.2.2.2 | exact (hsc.2.2 k2 (by omega)).1 | assumption) (by first | assumption | exact hs.2.2.1 _ _ rfl | exact hfo.2.2.1 _ _ rfl | exact hwa.2.1.2.2.1 | exact hsh.2.1.2.1 | exact hsc.2.1.2.1 | exact hsc.2.1.2.2 | exact (hsc.2.2 k2 (by omega)).2 | exact (hcm k2 (by omega)).2.1) rfl rfl jw_385 dX12_firstFailure_66 rfl ?_
        refine jk_aload_n (q := 70) dX12_firstFailure_69 rfl rfl ?_
        refine jk_aload_n (q := 71) dX12_firstFailure_70 rfl rfl ?_
        refine jk_iconst (q := 72) dX12_firstFailure_71 rfl ?_
        refine jk_ialdR (q := 73) (by first | exact hx0 | exact hs.1 | exact hs.2.1 _ _ rfl | exact hfo.1 | exact hfo.2.1 _ _ rfl | exact hwa.1.1 | exact hwa.1.2.1 | exact hwa.1.2.2 | exact hsh.1.1 | exact hsh.1.2.1 | exact hhe.1.1 | exact hba.1.1 | exact hcc.1 | exact hH.1 | exact hsc.1.1 | exact hB4.1 | exact hSN.1 | exact hsc.1.2.2.1 | exact hsc.1.2.2.2 | exact (hsc.2.2 k2 (by omega)).1 | assumption) (by first | exact jk_row_same _ _ _ | ((repeat rewrite [jk_row_ne _ _ (by omega)]); first | exact jk_row_same _ _ _ | exact hsq | exact hrow | exact hrow2 | rfl)) (by first | assumption | decide | omega | exact jB_01 _ | exact jB_in _ | exact ⟨by omega, by omega⟩) dX12_firstFailure_72 rfl ?_
        refine jk_aload_n (q := 74) dX12_firstFailure_73 rfl rfl ?_
        refine jk_iconst (q := 75) dX12_firstFailure_74 rfl ?_
        refine jk_ialdR (q := 76) (by first | exact hx0 | exact hs.1 | exact hs.2.1 _ _ rfl | exact hfo.1 | exact hfo.2.1 _ _ rfl | exact hwa.1.1 | exact hwa.1.2.1 | exact hwa.1.2.2 | exact hsh.1.1 | exact hsh.1.2.1 | exact hhe.1.1 | exact hba.1.1 | exact hcc.1 | exact hH.1 | exact hsc.1.1 | exact hB4.1 | exact hSN.1 | exact hsc.1.2.2.1 | exact hsc.1.2.2.2 | exact (hsc.2.2 k2 (by omega)).1 | assumption) (by first | exact jk_row_same _ _ _ | ((repeat rewrite [jk_row_ne _ _ (by omega)]); first | exact jk_row_same _ _ _ | exact hsq | exact hrow | exact hrow2 | rfl)) (by first | assumption | decide | omega | exact jB_01 _ | exact jB_in _ | exact ⟨by omega, by omega⟩) dX12_firstFailure_75 rfl ?_
        refine jk_aload_n (q := 77) dX12_firstFailure_76 rfl rfl ?_
        refine jk_iconst (q := 78) dX12_firstFailure_77 rfl ?_
        refine jk_ialdR (q := 79) (by first | exact hx0 | exact hs.1 | exact hs.2.1 _ _ rfl | exact hfo.1 | exact hfo.2.1 _ _ rfl | exact hwa.1.1 | exact hwa.1.2.1 | exact hwa.1.2.2 | exact hsh.1.1 | exact hsh.1.2.1 | exact hhe.1.1 | exact hba.1.1 | exact hcc.1 | exact hH.1 | exact hsc.1.1 | exact hB4.1 | exact hSN.1 | exact hsc.1.2.2.1 | exact hsc.1.2.2.2 | exact (hsc.2.2 k2 (by omega)).1 | assumption) (by first | exact jk_row_same _ _ _ | ((repeat rewrite [jk_row_ne _ _ (by omega)]); first | exact jk_row_same _ _ _ | exact hsq | exact hrow | exact hrow2 | rfl)) (by first | assumption | decide | omega | exact jB_01 _ | exact jB_in _ | exact ⟨by omega, by omega⟩) dX12_firstFailure_78 rfl ?_
        refine jk_aload_n (q := 80) dX12_firstFailure_79 rfl rfl ?_
        refine jk_iconst (q := 81) dX12_firstFailure_80 rfl ?_
        refine jk_ialdR (q := 82) (by first | exact hx0 | exact hs.1 | exact hs.2.1 _ _ rfl | exact hfo.1 | exact hfo.2.1 _ _ rfl | exact hwa.1.1 | exact hwa.1.2.1 | exact hwa.1.2.2 | exact hsh.1.1 | exact hsh.1.2.1 | exact hhe.1.1 | exact hba.1.1 | exact hcc.1 | exact hH.1 | exact hsc.1.1 | exact hB4.1 | exact hSN.1 | exact hsc.1.2.2.1 | exact hsc.1.2.2.2 | exact (hsc.2.2 k2 (by omega)).1 | assumption) (by first | exact jk_row_same _ _ _ | ((repeat rewrite [jk_row_ne _ _ (by omega)]); first | exact jk_row_same _ _ _ | exact hsq | exact hrow | exact hrow2 | rfl)) (by first | assumption | decide | omega | exact jB_01 _ | exact jB_in _ | exact ⟨by omega, by omega⟩) dX12_firstFailure_81 rfl ?_
        refine jk_cV5g (q := 85) (c_X2_carryOut hz hch ha1 hr2 hkd h00) jm_X2_carryOut jw_746 rfl (by first | exact hx0 | exact hs.1 | exact hs.2.1 _ _ rfl | exact hfo.1 | exact hfo.2.1 _ _ rfl | exact hwa.1.1 | exact hwa.1.2.1 | exact hwa.1.2.2 | exact hsh.1.1 | exact hsh.1.2.1 | exact hhe.1.1 | exact hba.1.1 | exact hcc.1 | exact hH.1 | exact hsc.1.1 | exact hB4.1 | exact hSN.1 | exact hsc.1.2.2.1 | exact hsc.1.2.2.2 | exact (hsc.2.2 k2 (by omega)).1 | assumption) rfl rfl (Nat.zero_le _) (Nat.zero_le _) rfl dX12_firstFailure_82 rfl (fun v' n' t' σ3 ρ' hq => ?_) (fun _ _ _ _ _ h => h.elim)
        obtain ⟨rfl, hn9, ht9, hr9, hr3, hn3, hp3⟩ := hq
        replace hn9 := hn9.symm; replace ht9 := ht9.symm; replace hr9 := hr9.symm; subst hn9 ht9 hr9
        simp only [Option.toList_some, Option.toList_none, List.cons_append, List.nil_append, Nat.sub_zero]
        refine jk_pop (q := 86) dX12_firstFailure_85 rfl rfl ?_
        refine jk_iinc1 (q := 89) dX12_firstFailure_86 rfl rfl rfl ?_
        refine jk_goto (q := 2) dX12_firstFailure_89 rfl ?_
        have hS : md_gk P g (k2 + 1) = (cl_do (kd k2) (md_gk P g k2) (σ (x + 550 + (8 + 2 * k2)) 0) (σ (x + 550 + (8 + 2 * k2)) 1) (σ (x + 550 + (8 + 2 * k2)) 2) (σ (x + 550 + (8 + 2 * k2)) 3)).2.2 := by show (md_do P (5 * (k2 : Int)) (md_gk P g k2)).2.2 = _; rw [ecl]
        have hp9 : md_fP P g (k2 : Int) = false := by
          show decide ((md_do P (5 * (k2 : Int)) (md_gk P g ((k2 : Nat) : Int).toNat)).1 ≠ 0) = false
          rw [Int.toNat_natCast, ecl]
          exact decide_eq_false (fun h => h h00)
        have ha9 : md_all (B + 85 * ((k2 + 1 : Nat) : Int)) (md_gk P g (k2 + 1)) := by
          have h9 := md_all_do ha1 (by omega) P (5 * (k2 : Int))
          rw [show B + 85 * ((k2 + 1 : Nat) : Int) = B + 85 * (k2 : Int) + 85 by omega]
          exact h9
        refine jk_convw (ih2 (by omega) σ3 (jk_fnd_S h0 hp9) (by rw [hS]; exact hr3) ha9 (hn3 hnn2) (fun a h1 h2 => (hp3 a (by omega) (by omega)).trans (hf2 a h1 h2))) (jk_wkS rfl (jk_wkS (jk_li (by omega)) (jk_wkN (jk_wkN jk_wk0))))
      · refine jk_acmp_eqN (q := 63) ((zz_ne hz (Nat.pos_of_ne_zero z2) htb.1).symm) ⟨_, rfl⟩ dX12_firstFailure_60 rfl ?_
        have z9 := ‹¬ _ = 0›
        refine jk_iload_n (q := 64) dX12_firstFailure_63 rfl rfl ?_
        exact jk_iret rfl dX12_firstFailure_64 (by 
                have hp9 : md_fP P g (k2 : Int) = true := by
                  show decide ((md_do P (5 * (k2 : Int)) (md_gk P g ((k2 : Nat) : Int).toNat)).1 ≠ 0) = true
                  rw [Int.toNat_natCast, ecl]
                  exact decide_eq_true (fun h => z9 (htb.2.mpr h))
                unfold ff_Q
                rw [show jk_fnd (md_fP P g) N = (k2 : Int) from jk_fnd_hit h0 hp9 N (by omega)]
                exact ⟨rfl, rfl, rfl, rfl, fun h => absurd h (by omega), hnn2, hf2⟩)
  exact jk_convw (L2 0 (Nat.zero_le _) σ rfl hr (by rw [show B + 85 * ((0 : Nat) : Int) = B by omega]; exact ha) hnn (fun _ _ _ => rfl)) (jk_wkS rfl (jk_wkS rfl (jk_wkN (jk_wkN jk_wk0))))
/-- what runScript leaves alone -/
def rn_c (x : Nat) (σ : jk_I) (ρ : jk_P) (σ' : jk_I) (ρ' : jk_P) : Prop := cl_nn σ' (x + 2) ∧ cl_nn σ' (x + 48) ∧ σ' (x + 550) 1 = 0 ∧ (∀ i, i < 10 → cs_bd (σ' (x + 550 + (8 + 2 * i)))) ∧ (∀ a, a ≠ x → (a < x + 2 ∨ x + 94 ≤ a) → (a < x + 140 ∨ x + 546 ≤ a) → a ≠ x + 550 → (∀ i, i < 10 → a ≠ x + 550 + (8 + 2 * i)) → σ' a = σ a) ∧ ∀ a, a ≠ x + 550 + 4 → ρ' a = ρ a
theorem c_X12_runScript {G : jk_G} {n : Nat} {t : jk_T} {σ : jk_I} {ρ : jk_P} {x : Nat} {g : Int → Int} {B : Int} {c : Nat} {Hr : Nat → Int → Int} {Bf P0 : Int → Int} {ty : Int} (hz : zz_ok G) (hx : zx_ok G) (hln : ln_at t ρ x) (hr : cl_rel σ (x + 2) g) (ha : md_all B g) (hnn : cl_nn σ (x + 2)) (hsi : md_sit g) (hv : zv_ok G) (hB9 : B ≤ 1000000) (hre : hs_rel σ (x + 140) c Hr) (hH : ∀ j, j < c → Hr j 2 ≤ 4) (hnB : cl_nn σ (x + 48)) (hss : σ (x + 550) 1 = ty) (hbt : σ (x + 552) = Bf) (hB : ∀ j, 0 ≤ j ∧ j < 60 → 0 ≤ Bf j ∧ Bf j < 65536) (hty : 0 ≤ ty ∧ ty ≤ 60) (hbd : ∀ i, i < 10 → cs_bd (σ (x + 550 + (8 + 2 * i)))) : jk_K G yX12_runScript mX12_runScript 1 6 [.ref x] n t σ ρ (fun v' n' t' σ' ρ' => md_w2 Bf ty P0 = false ∧ md_ff Bf ty P0 g = -1 ∧ v' = some (jI (md_cn Bf ty P0 : Nat)) ∧ n' = n ∧ t' = t ∧ cl_rel σ' (x + 2) (md_gk (md_x Bf ty P0).2 g (md_cn Bf ty P0)) ∧ hs_rel σ' (x + 140) (hs_pc c) (hs_pH c Hr g) ∧ md_cn Bf ty P0 ≤ 10 ∧ σ' x = σ x ∧ rn_c x σ ρ σ' ρ') (fun E n' t' σ' ρ' => n ≤ n' ∧ t' = t ∧ cl_rel σ' (x + 2) g ∧ hs_rel σ' (x + 140) c Hr ∧ rn_c x σ ρ σ' ρ' ∧ ((md_w2 Bf ty P0 = true ∧ E = "java/lang/IllegalArgumentException" ∧ σ' x = jk_set (σ x) 13 (md_x Bf ty P0).1.1) ∨ (md_w2 Bf ty P0 = false ∧ md_ff Bf ty P0 g ≠ -1 ∧ E = "java/lang/IllegalStateException" ∧ σ' x = jk_set (σ x) 14 (md_ff Bf ty P0 g)))) := by
  obtain ⟨hx0, ⟨hx1, hx2, hx3, hx4, hx5, hx6, hx7, hx8, hx9, hx10, hx11, hx12⟩, hB4, hSN, hH', hhe, hba, hch, hsc⟩ := id hln
  obtain ⟨hcc, hwa, hsh, hwy, hyc⟩ := id hch
  obtain ⟨-, -, hfo, hfw⟩ := id hwa
  obtain ⟨-, -, -, -, hs, hsf⟩ := id hfo
  have hi := ha.1
  have hw := ha.2.1
  have hxx := ha.2.2.1
  have i0 := hi.1
  have i1 := hi.2.1
  have i2 := hi.2.2.1
  have i3 := hi.2.2.2.1
  obtain ⟨q0, q1, q2, q3⟩ := hr.1
  have hf0 : ln_fr x σ σ := fun _ _ => rfl
  have hS0 : ∀ a, (a < x + 550) → a ≠ x + 550 ∧ ∀ i, i < 10 → a ≠ x + 550 + (8 + 2 * i) := fun a h => ⟨by omega, fun i hi => by omega⟩
  refine jk_entryB (ls := [some (.ref x), none, none]) jm_X12_runScript.1 rfl rfl rfl ?_
  refine jk_aload_n (q := 1) dX12_runScript_0 rfl rfl ?_
  refine jk_getA (q := 4) (k := 12) 11 11 rfl (by first | exact hx0 | exact hs.1 | exact hs.2.1 _ _ rfl | exact hfo.1 | exact hfo.2.1 _ _ rfl | exact hwa.1.1 | exact hwa.1.2.1 | exact hwa.1.2.2 | exact hsh.1.1 | exact hsh.1.2.1 | exact hhe.1.1 | exact hba.1.1 | exact hcc.1 | exact hH'.1 | exact hsc.1.1 | exact hB4.1 | exact hSN.1) (by first | exact hx1 | exact hx2 | exact hx3 | exact hx4 | exact hx5 | exact hx6 | exact hx7 | exact hx8 | exact hx9 | exact hx10 | exact hx11 | exact hx12) rfl rfl jw_386 dX12_runScript_1 rfl ?_
  refine jk_cV0g (q := 7) (c_X7_read (P0 := P0) hz hv hsc hss hbt hB hty hbd) jm_X7_read jw_1507 rfl (by first | exact hx0 | exact hs.1 | exact hs.2.1 _ _ rfl | exact hfo.1 | exact hfo.2.1 _ _ rfl | exact hwa.1.1 | exact hwa.1.2.1 | exact hwa.1.2.2 | exact hsh.1.1 | exact hsh.1.2.1 | exact hhe.1.1 | exact hba.1.1 | exact hcc.1 | exact hH'.1 | exact hsc.1.1 | exact hB4.1 | exact hSN.1) rfl rfl (Nat.zero_le _) (Nat.zero_le _) rfl dX12_runScript_4 rfl (fun v' n' t' σ1 ρ1 hq => ?_) (fun _ _ _ _ _ h => h.elim)
  obtain ⟨rfl, rfl, rfl, e7, f7, b7, g7, k7, r7⟩ := hq
  simp only [Option.toList_some, List.cons_append, List.nil_append, Nat.sub_zero]
  have hln1 := ln_at_rho hln r7
  obtain ⟨hx0, ⟨hx1, hx2, hx3, hx4, hx5, hx6, hx7, hx8, hx9, hx10, hx11, hx12⟩, hB4, hSN, hH9, hhe, hba, hch, hsc⟩ := id hln1
  obtain ⟨hcc, hwa, hsh, hwy, hyc⟩ := id hch
  obtain ⟨-, -, hfo, hfw⟩ := id hwa
  obtain ⟨-, -, -, -, hs, hsf⟩ := id hfo
  refine jk_istore1 (q := 8) dX12_runScript_7 rfl rfl rfl ?_
  refine jk_aload_n (q := 9) dX12_runScript_8 rfl rfl ?_
  refine jk_getA (q := 12) (k := 12) 11 11 rfl (by first | exact hx0 | exact hs.1 | exact hs.2.1 _ _ rfl | exact hfo.1 | exact hfo.2.1 _ _ rfl | exact hwa.1.1 | exact hwa.1.2.1 | exact hwa.1.2.2 | exact hsh.1.1 | exact hsh.1.2.1 | exact hhe.1.1 | exact hba.1.1 | exact hcc.1 | exact hH'.1 | exact hsc.1.1 | exact hB4.1 | exact hSN.1) (by first | exact hx1 | exact hx2 | exact hx3 | exact hx4 | exact hx5 | exact hx6 | exact hx7 | exact hx8 | exact hx9 | exact hx10 | exact hx11 | exact hx12) rfl rfl jw_386 dX12_runScript_9 rfl ?_
  refine jk_iconst (q := 13) dX12_runScript_12 rfl ?_
  refine jk_putIR (q := 16) (k := 7) 1 1 rfl (by first | exact hx0 | exact hs.1 | exact hs.2.1 _ _ rfl | exact hfo.1 | exact hfo.2.1 _ _ rfl | exact hwa.1.1 | exact hwa.1.2.1 | exact hwa.1.2.2 | exact hsh.1.1 | exact hsh.1.2.1 | exact hhe.1.1 | exact hba.1.1 | exact hcc.1 | exact hH'.1 | exact hsc.1.1 | exact hB4.1 | exact hSN.1) (by first | exact jk_row_same _ _ _ | ((repeat rewrite [jk_row_ne _ _ (by omega)]); first | exact jk_row_same _ _ _ | rfl)) rfl rfl rfl jw_319 dX12_runScript_13 rfl ?_
  have g0 : ∀ a, a < x + 550 → (jk_row σ1 (x + 550) (jk_set (σ1 (x + 550)) 1 0)) a = σ a := fun a h => (jk_row_ne _ _ (by omega)).trans (g7 a (hS0 a h).1 (hS0 a h).2)
  have hr0 : cl_rel (jk_row σ1 (x + 550) (jk_set (σ1 (x + 550)) 1 0)) (x + 2) g := cl_rel_same i2.2 (fun a h1 h2 => g0 a (by omega)) hr
  have hnn0 : cl_nn (jk_row σ1 (x + 550) (jk_set (σ1 (x + 550)) 1 0)) (x + 2) := cl_nn_same (fun q hq => g0 _ (by omega)) hnn
  have hnB0 : cl_nn (jk_row σ1 (x + 550) (jk_set (σ1 (x + 550)) 1 0)) (x + 48) := cl_nn_same (fun q hq => g0 _ (by omega)) hnB
  have hre0 : hs_rel (jk_row σ1 (x + 550) (jk_set (σ1 (x + 550)) 1 0)) (x + 140) c Hr := hs_rel_same (fun a h1 h2 => g0 a (by omega)) hH hre
  have q0s : (jk_row σ1 (x + 550) (jk_set (σ1 (x + 550)) 1 0)) (x + 550) 1 = 0 := by rw [jk_row_same, jk_set_at]
  have b0 : ∀ i, i < 10 → cs_bd ((jk_row σ1 (x + 550) (jk_set (σ1 (x + 550)) 1 0)) (x + 550 + (8 + 2 * i))) := fun i hi => by rw [jk_row_ne _ _ (by omega)]; exact b7 i hi
  refine jk_iload_n (q := 17) dX12_runScript_16 rfl rfl ?_
  refine jk_ifB_ne (q := 42) (q2 := 20) dX12_runScript_17 rfl rfl (fun z1 => ?_) (fun z1 => ?_)
  · have hw2 : md_w2 Bf ty P0 = false := by have h9 := ‹(!md_w2 Bf ty P0) = true›; revert h9; cases md_w2 Bf ty P0 <;> decide
    obtain ⟨hcn10, hcnt, kd, hkd⟩ := f7 hw2
    refine jk_aload_n (q := 43) dX12_runScript_42 rfl rfl ?_
    refine jk_getA (q := 46) (k := 12) 1 1 rfl (by first | exact hx0 | exact hs.1 | exact hs.2.1 _ _ rfl | exact hfo.1 | exact hfo.2.1 _ _ rfl | exact hwa.1.1 | exact hwa.1.2.1 | exact hwa.1.2.2 | exact hsh.1.1 | exact hsh.1.2.1 | exact hhe.1.1 | exact hba.1.1 | exact hcc.1 | exact hH'.1 | exact hsc.1.1 | exact hB4.1 | exact hSN.1) (by first | exact hx1 | exact hx2 | exact hx3 | exact hx4 | exact hx5 | exact hx6 | exact hx7 | exact hx8 | exact hx9 | exact hx10 | exact hx11 | exact hx12) rfl rfl jw_376 dX12_runScript_43 rfl ?_
    refine jk_aload_n (q := 47) dX12_runScript_46 rfl rfl ?_
    refine jk_getA (q := 50) (k := 12) 0 0 rfl (by first | exact hx0 | exact hs.1 | exact hs.2.1 _ _ rfl | exact hfo.1 | exact hfo.2.1 _ _ rfl | exact hwa.1.1 | exact hwa.1.2.1 | exact hwa.1.2.2 | exact hsh.1.1 | exact hsh.1.2.1 | exact hhe.1.1 | exact hba.1.1 | exact hcc.1 | exact hH'.1 | exact hsc.1.1 | exact hB4.1 | exact hSN.1) (by first | exact hx1 | exact hx2 | exact hx3 | exact hx4 | exact hx5 | exact hx6 | exact hx7 | exact hx8 | exact hx9 | exact hx10 | exact hx11 | exact hx12) rfl rfl jw_375 dX12_runScript_47 rfl ?_
    refine jk_cV1g (q := 53) (c_X9_copyFrom hB4 hs (by omega) hr0 hi) jm_X9_copyFrom jw_1563 rfl (by first | exact hx0 | exact hs.1 | exact hs.2.1 _ _ rfl | exact hfo.1 | exact hfo.2.1 _ _ rfl | exact hwa.1.1 | exact hwa.1.2.1 | exact hwa.1.2.2 | exact hsh.1.1 | exact hsh.1.2.1 | exact hhe.1.1 | exact hba.1.1 | exact hcc.1 | exact hH'.1 | exact hsc.1.1 | exact hB4.1 | exact hSN.1) rfl rfl (Nat.zero_le _) (Nat.zero_le _) rfl dX12_runScript_50 rfl (fun v' n' t' σ2 ρ' hq => ?_) (fun _ _ _ _ _ h => h.elim)
    obtain ⟨rfl, hn9, ht9, hr9, hrB2, hnB2, hp2⟩ := hq
    replace hn9 := hn9.symm; replace ht9 := ht9.symm; replace hr9 := hr9.symm; subst hn9 ht9 hr9
    simp only [Option.toList_some, Option.toList_none, List.cons_append, List.nil_append, Nat.sub_zero]
    have hnB3 := hnB2 hnB0 hnn0
    have hr2 : cl_rel σ2 (x + 2) g := cl_rel_same i2.2 (fun a h1 h2 => hp2 a (by omega)) hr0
    have hnn2 : cl_nn σ2 (x + 2) := cl_nn_same (fun q hq => hp2 _ (by omega)) hnn0
    have hre2 : hs_rel σ2 (x + 140) c Hr := hs_rel_same (fun a h1 h2 => hp2 a (by omega)) hH hre0
    have hcn2 : σ2 (x + 550) 3 = (md_cn Bf ty P0 : Nat) := by rw [hp2 _ (by omega), jk_row_same, jk_set_ne _ _ (by decide)]; exact hcnt
    have hrw2 : ∀ i, i < 10 → σ2 (x + 550 + (8 + 2 * i)) = σ1 (x + 550 + (8 + 2 * i)) := fun i hi => by rw [hp2 _ (by omega), jk_row_ne _ _ (by omega)]
    have hcm2 : cm_is σ2 ρ1 (x + 550) (md_x Bf ty P0).2 (md_cn Bf ty P0) kd := fun i hi => by
      have h9 := hkd i hi
      rw [hrw2 i (by omega)]
      exact h9
    have hbd2 : ∀ i, i < 10 → cs_bd (σ2 (x + 550 + (8 + 2 * i))) := fun i hi => by rw [hrw2 i hi]; exact b7 i hi
    refine jk_aload_n (q := 54) dX12_runScript_53 rfl rfl ?_
    refine jk_cV0g (q := 57) (c_X12_firstFailure hz hx hln1 hr2 ha hnn2 hsi hcn10 hB9 hcn2 hcm2 hbd2) jm_X12_firstFailure jw_1564 rfl (by first | exact hx0 | exact hs.1 | exact hs.2.1 _ _ rfl | exact hfo.1 | exact hfo.2.1 _ _ rfl | exact hwa.1.1 | exact hwa.1.2.1 | exact hwa.1.2.2 | exact hsh.1.1 | exact hsh.1.2.1 | exact hhe.1.1 | exact hba.1.1 | exact hcc.1 | exact hH'.1 | exact hsc.1.1 | exact hB4.1 | exact hSN.1) rfl rfl (Nat.zero_le _) (Nat.zero_le _) rfl dX12_runScript_54 rfl (fun v' n' t' σ3 ρ' hq => ?_) (fun _ _ _ _ _ h => h.elim)
    obtain ⟨rfl, hn9, ht9, hr9, hff, hnn3, hp3⟩ := hq
    replace hn9 := hn9.symm; replace ht9 := ht9.symm; replace hr9 := hr9.symm; subst hn9 ht9 hr9
    simp only [Option.toList_some, Option.toList_none, List.cons_append, List.nil_append, Nat.sub_zero]
    have hff9 := jk_fnd_bd (md_fP (md_x Bf ty P0).2 g) (md_cn Bf ty P0)
    have hrB3 : cl_rel σ3 (x + 48) g := cl_rel_same i2.2 (fun a h1 h2 => hp3 a (by omega) (by omega)) hrB2
    have hnB4 : cl_nn σ3 (x + 48) := cl_nn_same (fun q hq => hp3 _ (by omega) (by omega)) hnB3
    have hre3 : hs_rel σ3 (x + 140) c Hr := hs_rel_same (fun a h1 h2 => hp3 a (by omega) (by omega)) hH hre2
    refine jk_istore2 (q := 58) dX12_runScript_57 rfl rfl rfl ?_
    refine jk_iload_n (q := 59) dX12_runScript_58 rfl rfl ?_
    refine jk_iconst (q := 60) dX12_runScript_59 rfl ?_
    refine jk_icmp_eq (q := 90) (q2 := 63) dX12_runScript_60 rfl rfl (by first | assumption | decide | omega | exact jB_01 _ | exact jB_in _ | exact ⟨by omega, by omega⟩) (by first | assumption | decide | omega | exact jB_01 _ | exact jB_in _ | exact ⟨by omega, by omega⟩) (fun z2 => ?_) (fun z2 => ?_)
    · refine jk_aload_n (q := 91) dX12_runScript_90 rfl rfl ?_
      refine jk_getA (q := 94) (k := 12) 4 4 rfl (by first | exact hx0 | exact hs.1 | exact hs.2.1 _ _ rfl | exact hfo.1 | exact hfo.2.1 _ _ rfl | exact hwa.1.1 | exact hwa.1.2.1 | exact hwa.1.2.2 | exact hsh.1.1 | exact hsh.1.2.1 | exact hhe.1.1 | exact hba.1.1 | exact hcc.1 | exact hH'.1 | exact hsc.1.1 | exact hB4.1 | exact hSN.1) (by first | exact hx1 | exact hx2 | exact hx3 | exact hx4 | exact hx5 | exact hx6 | exact hx7 | exact hx8 | exact hx9 | exact hx10 | exact hx11 | exact hx12) rfl rfl jw_379 dX12_runScript_91 rfl ?_
      refine jk_aload_n (q := 95) dX12_runScript_94 rfl rfl ?_
      refine jk_getA (q := 98) (k := 12) 1 1 rfl (by first | exact hx0 | exact hs.1 | exact hs.2.1 _ _ rfl | exact hfo.1 | exact hfo.2.1 _ _ rfl | exact hwa.1.1 | exact hwa.1.2.1 | exact hwa.1.2.2 | exact hsh.1.1 | exact hsh.1.2.1 | exact hhe.1.1 | exact hba.1.1 | exact hcc.1 | exact hH'.1 | exact hsc.1.1 | exact hB4.1 | exact hSN.1) (by first | exact hx1 | exact hx2 | exact hx3 | exact hx4 | exact hx5 | exact hx6 | exact hx7 | exact hx8 | exact hx9 | exact hx10 | exact hx11 | exact hx12) rfl rfl jw_376 dX12_runScript_95 rfl ?_
      refine jk_cV1g (q := 101) (c_X5_push hH9 hB4 (by omega) hrB3 hi hnB4 hH hre3) jm_X5_push jw_726 rfl (by first | exact hx0 | exact hs.1 | exact hs.2.1 _ _ rfl | exact hfo.1 | exact hfo.2.1 _ _ rfl | exact hwa.1.1 | exact hwa.1.2.1 | exact hwa.1.2.2 | exact hsh.1.1 | exact hsh.1.2.1 | exact hhe.1.1 | exact hba.1.1 | exact hcc.1 | exact hH'.1 | exact hsc.1.1 | exact hB4.1 | exact hSN.1) rfl rfl (Nat.zero_le _) (Nat.zero_le _) rfl dX12_runScript_98 rfl (fun v' n' t' σ4 ρ' hq => ?_) (fun _ _ _ _ _ h => h.elim)
      obtain ⟨rfl, hn9, ht9, hr9, hre4, hp4⟩ := hq
      replace hn9 := hn9.symm; replace ht9 := ht9.symm; replace hr9 := hr9.symm; subst hn9 ht9 hr9
      simp only [Option.toList_some, Option.toList_none, List.cons_append, List.nil_append, Nat.sub_zero]
      refine jk_aload_n (q := 102) dX12_runScript_101 rfl rfl ?_
      refine jk_getA (q := 105) (k := 12) 11 11 rfl (by first | exact hx0 | exact hs.1 | exact hs.2.1 _ _ rfl | exact hfo.1 | exact hfo.2.1 _ _ rfl | exact hwa.1.1 | exact hwa.1.2.1 | exact hwa.1.2.2 | exact hsh.1.1 | exact hsh.1.2.1 | exact hhe.1.1 | exact hba.1.1 | exact hcc.1 | exact hH'.1 | exact hsc.1.1 | exact hB4.1 | exact hSN.1) (by first | exact hx1 | exact hx2 | exact hx3 | exact hx4 | exact hx5 | exact hx6 | exact hx7 | exact hx8 | exact hx9 | exact hx10 | exact hx11 | exact hx12) rfl rfl jw_386 dX12_runScript_102 rfl ?_
      refine jk_getIR (q := 108) (k := 7) 3 3 rfl (by first | exact hx0 | exact hs.1 | exact hs.2.1 _ _ rfl | exact hfo.1 | exact hfo.2.1 _ _ rfl | exact hwa.1.1 | exact hwa.1.2.1 | exact hwa.1.2.2 | exact hsh.1.1 | exact hsh.1.2.1 | exact hhe.1.1 | exact hba.1.1 | exact hcc.1 | exact hH'.1 | exact hsc.1.1 | exact hB4.1 | exact hSN.1) (by first | exact jk_row_same _ _ _ | ((repeat rewrite [jk_row_ne _ _ (by omega)]); first | exact jk_row_same _ _ _ | rfl)) rfl rfl jw_323 dX12_runScript_105 rfl ?_
      rw [show σ4 (x + 550) = σ2 (x + 550) from (hp4 _ (by omega)).trans (hp3 _ (by omega) (by omega)), hcn2]
      exact jk_iret rfl dX12_runScript_108 (by 
              have g4 : ∀ a, a ≠ x + 46 → (a < x + 2 ∨ x + 94 ≤ a) → (a < x + 140 ∨ x + 546 ≤ a) → σ4 a = (jk_row σ1 (x + 550) (jk_set (σ1 (x + 550)) 1 0)) a := fun a _ h1 h2 => (hp4 a (by omega)).trans ((hp3 a (by omega) (by omega)).trans (hp2 a (by omega)))
              refine ⟨hw2, by assumption, rfl, rfl, rfl, cl_rel_same (hff (by assumption)).2.1.2.2.1.2 (fun a h1 h2 => hp4 a (by omega)) (hff (by assumption)).1, hre4, hcn10, ?_, ?_⟩
              · rw [g4 x (by omega) (by omega) (by omega), g0 x (by omega)]
              · refine ⟨cl_nn_same (fun q hq => hp4 _ (by omega)) hnn3, cl_nn_same (fun q hq => hp4 _ (by omega)) hnB4, by rw [g4 _ (by omega) (by omega) (by omega)]; exact q0s, fun i hi => by rw [g4 _ (by omega) (by omega) (by omega)]; exact b0 i hi, fun a h1 h2 h3 h4 h5 => ?_, r7⟩
                rw [show σ4 a = σ3 a from hp4 a (by omega), show σ3 a = σ2 a from hp3 a (by omega) (by omega), hp2 a (by omega), jk_row_ne _ _ h4]
                exact g7 a h4 h5)
    · refine jk_aload_n (q := 64) dX12_runScript_63 rfl rfl ?_
      refine jk_getA (q := 67) (k := 12) 0 0 rfl (by first | exact hx0 | exact hs.1 | exact hs.2.1 _ _ rfl | exact hfo.1 | exact hfo.2.1 _ _ rfl | exact hwa.1.1 | exact hwa.1.2.1 | exact hwa.1.2.2 | exact hsh.1.1 | exact hsh.1.2.1 | exact hhe.1.1 | exact hba.1.1 | exact hcc.1 | exact hH'.1 | exact hsc.1.1 | exact hB4.1 | exact hSN.1) (by first | exact hx1 | exact hx2 | exact hx3 | exact hx4 | exact hx5 | exact hx6 | exact hx7 | exact hx8 | exact hx9 | exact hx10 | exact hx11 | exact hx12) rfl rfl jw_375 dX12_runScript_64 rfl ?_
      refine jk_aload_n (q := 68) dX12_runScript_67 rfl rfl ?_
      refine jk_getA (q := 71) (k := 12) 1 1 rfl (by first | exact hx0 | exact hs.1 | exact hs.2.1 _ _ rfl | exact hfo.1 | exact hfo.2.1 _ _ rfl | exact hwa.1.1 | exact hwa.1.2.1 | exact hwa.1.2.2 | exact hsh.1.1 | exact hsh.1.2.1 | exact hhe.1.1 | exact hba.1.1 | exact hcc.1 | exact hH'.1 | exact hsc.1.1 | exact hB4.1 | exact hSN.1) (by first | exact hx1 | exact hx2 | exact hx3 | exact hx4 | exact hx5 | exact hx6 | exact hx7 | exact hx8 | exact hx9 | exact hx10 | exact hx11 | exact hx12) rfl rfl jw_376 dX12_runScript_68 rfl ?_
      refine jk_cV1g (q := 74) (c_X9_copyFrom hs hB4 (by omega) hrB3 hi) jm_X9_copyFrom jw_1563 rfl (by first | exact hx0 | exact hs.1 | exact hs.2.1 _ _ rfl | exact hfo.1 | exact hfo.2.1 _ _ rfl | exact hwa.1.1 | exact hwa.1.2.1 | exact hwa.1.2.2 | exact hsh.1.1 | exact hsh.1.2.1 | exact hhe.1.1 | exact hba.1.1 | exact hcc.1 | exact hH'.1 | exact hsc.1.1 | exact hB4.1 | exact hSN.1) rfl rfl (Nat.zero_le _) (Nat.zero_le _) rfl dX12_runScript_71 rfl (fun v' n' t' σ4 ρ' hq => ?_) (fun _ _ _ _ _ h => h.elim)
      obtain ⟨rfl, hn9, ht9, hr9, hr4, hn4, hp4⟩ := hq
      replace hn9 := hn9.symm; replace ht9 := ht9.symm; replace hr9 := hr9.symm; subst hn9 ht9 hr9
      simp only [Option.toList_some, Option.toList_none, List.cons_append, List.nil_append, Nat.sub_zero]
      refine jk_aload_n (q := 75) dX12_runScript_74 rfl rfl ?_
      refine jk_iload_n (q := 76) dX12_runScript_75 rfl rfl ?_
      refine jk_putIR (q := 79) (k := 12) 14 14 rfl (by first | exact hx0 | exact hs.1 | exact hs.2.1 _ _ rfl | exact hfo.1 | exact hfo.2.1 _ _ rfl | exact hwa.1.1 | exact hwa.1.2.1 | exact hwa.1.2.2 | exact hsh.1.1 | exact hsh.1.2.1 | exact hhe.1.1 | exact hba.1.1 | exact hcc.1 | exact hH'.1 | exact hsc.1.1 | exact hB4.1 | exact hSN.1) (by first | exact jk_row_same _ _ _ | ((repeat rewrite [jk_row_ne _ _ (by omega)]); first | exact jk_row_same _ _ _ | rfl)) rfl rfl rfl jw_389 dX12_runScript_76 rfl ?_
      exact jk_throwSW (jt_404_385 hx) rfl (by decide) (by decide) (by decide) (by decide) (by decide) dX12_runScript_79 dX12_runScript_82 dX12_runScript_83 dX12_runScript_86 dX12_runScript_89 (fun n' hn' => by
              have g9 : ∀ a, a ≠ x → (jk_row σ4 x (jk_set (σ4 x) 14 (jk_fnd (md_fP (md_x Bf ty P0).2 g) (md_cn Bf ty P0)))) a = σ4 a := fun a h => jk_row_ne _ _ h
              have g4 : ∀ a, (a < x + 2 ∨ x + 94 ≤ a) → (a < x + 512 ∨ x + 546 ≤ a) → σ4 a = (jk_row σ1 (x + 550) (jk_set (σ1 (x + 550)) 1 0)) a := fun a h1 h2 => (hp4 a (by omega)).trans ((hp3 a (by omega) (by omega)).trans (hp2 a (by omega)))
              refine ⟨hn', rfl, cl_rel_same i2.2 (fun a h1 h2 => g9 a (by omega)) hr4, hs_rel_same (fun a h1 h2 => (g9 a (by omega)).trans (hp4 a (by omega))) hH hre3, ⟨cl_nn_same (fun q hq => g9 _ (by omega)) (hn4 hnn3 hnB4), cl_nn_same (fun q hq => (g9 _ (by omega)).trans (hp4 _ (by omega))) hnB4, by rw [g9 _ (by omega), g4 _ (by omega) (by omega)]; exact q0s, fun i hi => by rw [g9 _ (by omega), g4 _ (by omega) (by omega)]; exact b0 i hi, fun a h1 h2 h3 h4 h5 => ?_, r7⟩, Or.inr ⟨hw2, by assumption, rfl, ?_⟩⟩
              · rw [g9 a h1, g4 a h2 (by omega), jk_row_ne _ _ h4]; exact g7 a h4 h5
              · rw [jk_row_same, g4 x (by omega) (by omega), g0 x (by omega)]; rfl)
  · have hw2 : md_w2 Bf ty P0 = true := by have h9 := ‹(!md_w2 Bf ty P0) = false›; revert h9; cases md_w2 Bf ty P0 <;> decide
    refine jk_aload_n (q := 21) dX12_runScript_20 rfl rfl ?_
    refine jk_aload_n (q := 22) dX12_runScript_21 rfl rfl ?_
    refine jk_getA (q := 25) (k := 12) 11 11 rfl (by first | exact hx0 | exact hs.1 | exact hs.2.1 _ _ rfl | exact hfo.1 | exact hfo.2.1 _ _ rfl | exact hwa.1.1 | exact hwa.1.2.1 | exact hwa.1.2.2 | exact hsh.1.1 | exact hsh.1.2.1 | exact hhe.1.1 | exact hba.1.1 | exact hcc.1 | exact hH'.1 | exact hsc.1.1 | exact hB4.1 | exact hSN.1) (by first | exact hx1 | exact hx2 | exact hx3 | exact hx4 | exact hx5 | exact hx6 | exact hx7 | exact hx8 | exact hx9 | exact hx10 | exact hx11 | exact hx12) rfl rfl jw_386 dX12_runScript_22 rfl ?_
    refine jk_getIR (q := 28) (k := 7) 2 2 rfl (by first | exact hx0 | exact hs.1 | exact hs.2.1 _ _ rfl | exact hfo.1 | exact hfo.2.1 _ _ rfl | exact hwa.1.1 | exact hwa.1.2.1 | exact hwa.1.2.2 | exact hsh.1.1 | exact hsh.1.2.1 | exact hhe.1.1 | exact hba.1.1 | exact hcc.1 | exact hH'.1 | exact hsc.1.1 | exact hB4.1 | exact hSN.1) (by first | exact jk_row_same _ _ _ | ((repeat rewrite [jk_row_ne _ _ (by omega)]); first | exact jk_row_same _ _ _ | rfl)) rfl rfl jw_321 dX12_runScript_25 rfl ?_
    rw [jk_set_ne _ _ (by decide), e7]
    refine jk_putIR (q := 31) (k := 12) 13 13 rfl (by first | exact hx0 | exact hs.1 | exact hs.2.1 _ _ rfl | exact hfo.1 | exact hfo.2.1 _ _ rfl | exact hwa.1.1 | exact hwa.1.2.1 | exact hwa.1.2.2 | exact hsh.1.1 | exact hsh.1.2.1 | exact hhe.1.1 | exact hba.1.1 | exact hcc.1 | exact hH'.1 | exact hsc.1.1 | exact hB4.1 | exact hSN.1) (by first | exact jk_row_same _ _ _ | ((repeat rewrite [jk_row_ne _ _ (by omega)]); first | exact jk_row_same _ _ _ | rfl)) rfl rfl rfl jw_388 dX12_runScript_28 rfl ?_
    exact jk_throwSW (jt_396_236 hx) rfl (by decide) (by decide) (by decide) (by decide) (by decide) dX12_runScript_31 dX12_runScript_34 dX12_runScript_35 dX12_runScript_38 dX12_runScript_41 (fun n' hn' => by
            have g9 : ∀ a, a ≠ x → (jk_row (jk_row σ1 (x + 550) (jk_set (σ1 (x + 550)) 1 0)) x (jk_set (σ1 x) 13 (md_x Bf ty P0).1.1)) a = (jk_row σ1 (x + 550) (jk_set (σ1 (x + 550)) 1 0)) a := fun a h => jk_row_ne _ _ h
            refine ⟨hn', rfl, cl_rel_same i2.2 (fun a h1 h2 => g9 a (by omega)) hr0, hs_rel_same (fun a h1 h2 => g9 a (by omega)) hH hre0, ⟨cl_nn_same (fun q hq => g9 _ (by omega)) hnn0, cl_nn_same (fun q hq => g9 _ (by omega)) hnB0, by rw [g9 _ (by omega)]; exact q0s, fun i hi => by rw [g9 _ (by omega)]; exact b0 i hi, fun a h1 h2 h3 h4 h5 => ?_, r7⟩, Or.inl ⟨hw2, rfl, ?_⟩⟩
            · rw [g9 a h1, jk_row_ne _ _ h4]; exact g7 a h4 h5
            · rw [jk_row_same, g7 x (by omega) (fun i hi => by omega)])
end R1
