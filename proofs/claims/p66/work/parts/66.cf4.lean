section CF4
theorem cm_g1_kb {g Od : Int → Int} {N : Nat} {s : (Int → Int) × Int} (h : md_kb s.1) : md_kb (cm_g1 g Od N s).1 := by
  unfold cm_g1; split
  · exact h
  · exact md_set_kb (md_set_kb h _) _
theorem cm_gn_kb {g Od : Int → Int} {N : Nat} {s : (Int → Int) × Int} (h : md_kb s.1) : ∀ k, md_kb (cm_gn g Od N s k).1
  | 0 => h
  | k + 1 => cm_g1_kb (cm_gn_kb h k)
theorem cm_flo_bd {g Od K : Int → Int} {N : Nat} (hp : cm_pt g) (hs : cm_srt g Od N (g 1)) : -1 ≤ cm_flo g Od K N ∧ cm_flo g Od K N < 16 := by
  by_cases h : cm_flo g Od K N = -1
  · rw [h]; decide
  · have := (cm_flo_yes hp hs h).1; have := hp.2.1; omega
def fo_gQ (f : Nat) (σ : jk_I) (n : Nat) (t : jk_T) (ρ : jk_P) (x : Int) : jk_Q := fun v' n' t' σ' ρ' => v' = some (jI x) ∧ n' = n ∧ t' = t ∧ ρ' = ρ ∧ ∃ K1, σ' = jk_row σ (f + 4) K1
theorem c_X3_growReached {G : jk_G} {n : Nat} {t : jk_T} {σ : jk_I} {ρ : jk_P} {f s N : Nat} {g Od K : Int → Int} {B : Int} (hf : fo_at t ρ f s) (hr : cl_rel σ s g) (hi : md_inv B g) (hw : md_inw g) (hN : σ f 2 = (N : Int)) (hN16 : N ≤ 16) (hOd : σ (f + 2) = Od) (hsr : cm_srt g Od N (g 1)) (hK : σ (f + 4) = K) (hkb : md_kb K) : jk_K G yX3_growReached mX3_growReached 0 0 [.ref f] n t σ ρ (jk_q (some (jI (cm_gn g Od N (K, 0) 9).2)) n t (jk_row σ (f + 4) (cm_gn g Od N (K, 0) 9).1) ρ) jk_no := by
  obtain ⟨hf1, hf2, hf3, hf4, hs, hsf⟩ := id hf
  have i0 := hi.1
  have i1 := hi.2.1
  have i2 := hi.2.2.1.2
  have hpt := cm_pt_of hi hw
  refine jk_entryB (ls := [some (.ref f), none, none, none]) jm_X3_growReached.1 rfl rfl rfl ?_
  refine jk_iconst (q := 1) dX3_growReached_0 rfl ?_
  refine jk_istore1 (q := 2) dX3_growReached_1 rfl rfl rfl ?_
  refine jk_iconst (q := 3) dX3_growReached_2 rfl ?_
  refine jk_istore2 (q := 4) dX3_growReached_3 rfl rfl rfl ?_
  have L4 : ∀ k4 : Nat, k4 ≤ 9 → ∀ (σ1 : jk_I), (h1 : σ1 = jk_row σ (f + 4) (cm_gn g Od N (K, 0) k4).1) → jk_J G mX3_growReached 4 [some (.ref f), some (jI (cm_gn g Od N (K, 0) k4).2), some (jI ((k4 : Int) + 1)), none] [] n t σ1 ρ 0 0 (jk_q (some (jI (cm_gn g Od N (K, 0) 9).2)) n t (jk_row σ (f + 4) (cm_gn g Od N (K, 0) 9).1) ρ) jk_no := by
    refine jk_loop _ (fun k4 hk4 ih4 => ?_)
    intro σ1 h1
    have hr1 : cl_rel σ1 s g := cl_rel_same i2 (fun a h8 h9 => by rw [h1, jk_row_ne _ _ (by omega)]) hr
    have hK1 : σ1 (f + 4) = (cm_gn g Od N (K, 0) k4).1 := by rw [h1, jk_row_same]
    have hN1 : σ1 f 2 = (N : Int) := by rw [h1, jk_row_ne _ _ (by omega)]; exact hN
    have hOd1 : σ1 (f + 2) = Od := by rw [h1, jk_row_ne _ _ (by omega)]; exact hOd
    have hkb1 := cm_gn_kb (g := g) (Od := Od) (N := N) (s := (K, 0)) hkb k4
    refine jk_iload_n (q := 5) dX3_growReached_4 rfl rfl ?_
    refine jk_bipush (q := 7) (y := 10) dX3_growReached_5 rfl (by decide) ?_
    refine jk_icmp_ge (q := 71) (q2 := 10) dX3_growReached_7 rfl rfl (by first | assumption | decide | omega | exact jB_01 _ | exact jB_in _ | exact ⟨by omega, by omega⟩) (by first | assumption | decide | omega | exact jB_01 _ | exact jB_in _ | exact ⟨by omega, by omega⟩) (fun z1 => ?_) (fun z1 => ?_)
    · refine jk_iload_n (q := 72) dX3_growReached_71 rfl rfl ?_
      exact jk_iret rfl dX3_growReached_72 (by refine ⟨?_, rfl, rfl, ?_, rfl⟩ <;> first | (rw [show 9 = k4 by omega]; first | done | exact h1) | (have e9 : (cm_gn g Od N (K, 0) 9) = (cm_gn g Od N (K, 0) k4) := (by have := cm_gn_stop (show (cm_flo g Od (cm_gn g Od N (K, 0) k4).1 N) = -1 by assumption) (9 - k4); rw [show k4 + (9 - k4) = 9 by omega] at this; exact this); rw [e9]; first | done | exact h1))
    · refine jk_aload_n (q := 11) dX3_growReached_10 rfl rfl ?_
      refine jk_cV0p (q := 14) (c_X3_firstLineOutOfReached (K := (cm_gn g Od N (K, 0) k4).1) hf hr1 hi hN1 hN16 hOd1 hsr hK1 hkb1) jm_X3_firstLineOutOfReached jw_1005 rfl (by first | exact hf1 | exact hs.1 | exact hf2 _ _ rfl | exact hs.2.1 _ _ rfl | assumption) rfl rfl rfl dX3_growReached_11 rfl ?_
      have hrb := cm_flo_bd (K := (cm_gn g Od N (K, 0) k4).1) hpt hsr
      refine jk_istore3 (q := 15) dX3_growReached_14 rfl rfl rfl ?_
      refine jk_iload_n (q := 16) dX3_growReached_15 rfl rfl ?_
      refine jk_iconst (q := 17) dX3_growReached_16 rfl ?_
      refine jk_icmp_ne (q := 23) (q2 := 20) dX3_growReached_17 rfl rfl (by first | assumption | decide | omega | exact jB_01 _ | exact jB_in _ | exact ⟨by omega, by omega⟩) (by first | assumption | decide | omega | exact jB_01 _ | exact jB_in _ | exact ⟨by omega, by omega⟩) (fun z2 => ?_) (fun z2 => ?_)
      · have hyes := cm_flo_yes hpt hsr (show (cm_flo g Od (cm_gn g Od N (K, 0) k4).1 N) ≠ -1 by assumption)
        have hy1 := hyes.1
        obtain ⟨l1, l2, -⟩ := md_inv_ln hi (l := (cm_flo g Od (cm_gn g Od N (K, 0) k4).1 N)) ⟨by omega, by omega⟩
        obtain ⟨q1, q2, q3, -⟩ := hr1.2.2.1 (cm_flo g Od (cm_gn g Od N (K, 0) k4).1 N) hy1
        refine jk_aload_n (q := 24) dX3_growReached_23 rfl rfl ?_
        refine jk_getA (q := 27) (k := 3) 3 3 rfl (by first | exact hf1 | exact hs.1 | exact hf2 _ _ rfl | exact hs.2.1 _ _ rfl | assumption) (by first | exact hf4 | exact hf3 _ _ rfl | exact hs.2.2.1 _ _ rfl | assumption) rfl rfl jw_192 dX3_growReached_24 rfl ?_
        refine jk_aload_n (q := 28) dX3_growReached_27 rfl rfl ?_
        refine jk_getA (q := 31) (k := 3) 0 0 rfl (by first | exact hf1 | exact hs.1 | exact hf2 _ _ rfl | exact hs.2.1 _ _ rfl | assumption) (by first | exact hf4 | exact hf3 _ _ rfl | exact hs.2.2.1 _ _ rfl | assumption) rfl rfl jw_189 dX3_growReached_28 rfl ?_
        refine jk_getA (q := 34) (k := 9) 4 4 rfl (by first | exact hf1 | exact hs.1 | exact hf2 _ _ rfl | exact hs.2.1 _ _ rfl | assumption) (by first | exact hf4 | exact hf3 _ _ rfl | exact hs.2.2.1 _ _ rfl | assumption) rfl rfl jw_75 dX3_growReached_31 rfl ?_
        refine jk_iload_n (q := 35) dX3_growReached_34 rfl rfl ?_
        refine jk_ialdR (q := 36) (by first | exact hf1 | exact hs.1 | exact hf2 _ _ rfl | exact hs.2.1 _ _ rfl | assumption) (by first | exact jk_row_same _ _ _ | ((repeat rewrite [jk_row_ne _ _ (by omega)]); first | exact jk_row_same _ _ _ | exact hK1 | rfl)) (by first | assumption | decide | omega | exact jB_01 _ | exact jB_in _ | exact ⟨by omega, by omega⟩) dX3_growReached_35 rfl ?_
        rw [q1]
        refine jk_iconst (q := 37) dX3_growReached_36 rfl ?_
        refine jk_zastR (q := 38) (by first | exact hf1 | exact hs.1 | exact hf2 _ _ rfl | exact hs.2.1 _ _ rfl | assumption) (by first | exact jk_row_same _ _ _ | ((repeat rewrite [jk_row_ne _ _ (by omega)]); first | exact jk_row_same _ _ _ | exact hK1 | rfl)) (by first | assumption | decide | omega | exact jB_01 _ | exact jB_in _ | exact ⟨by omega, by omega⟩) (by first | assumption | decide | omega | exact jB_01 _ | exact jB_in _ | exact ⟨by omega, by omega⟩) dX3_growReached_37 rfl ?_
        refine jk_aload_n (q := 39) dX3_growReached_38 rfl rfl ?_
        refine jk_getA (q := 42) (k := 3) 3 3 rfl (by first | exact hf1 | exact hs.1 | exact hf2 _ _ rfl | exact hs.2.1 _ _ rfl | assumption) (by first | exact hf4 | exact hf3 _ _ rfl | exact hs.2.2.1 _ _ rfl | assumption) rfl rfl jw_192 dX3_growReached_39 rfl ?_
        refine jk_aload_n (q := 43) dX3_growReached_42 rfl rfl ?_
        refine jk_getA (q := 46) (k := 3) 0 0 rfl (by first | exact hf1 | exact hs.1 | exact hf2 _ _ rfl | exact hs.2.1 _ _ rfl | assumption) (by first | exact hf4 | exact hf3 _ _ rfl | exact hs.2.2.1 _ _ rfl | assumption) rfl rfl jw_189 dX3_growReached_43 rfl ?_
        refine jk_getA (q := 49) (k := 9) 5 5 rfl (by first | exact hf1 | exact hs.1 | exact hf2 _ _ rfl | exact hs.2.1 _ _ rfl | assumption) (by first | exact hf4 | exact hf3 _ _ rfl | exact hs.2.2.1 _ _ rfl | assumption) rfl rfl jw_81 dX3_growReached_46 rfl ?_
        refine jk_iload_n (q := 50) dX3_growReached_49 rfl rfl ?_
        refine jk_ialdR (q := 51) (by first | exact hf1 | exact hs.1 | exact hf2 _ _ rfl | exact hs.2.1 _ _ rfl | assumption) (by first | exact jk_row_same _ _ _ | ((repeat rewrite [jk_row_ne _ _ (by omega)]); first | exact jk_row_same _ _ _ | exact hK1 | rfl)) (by first | assumption | decide | omega | exact jB_01 _ | exact jB_in _ | exact ⟨by omega, by omega⟩) dX3_growReached_50 rfl ?_
        rw [q2]
        refine jk_iconst (q := 52) dX3_growReached_51 rfl ?_
        refine jk_zastR (q := 53) (by first | exact hf1 | exact hs.1 | exact hf2 _ _ rfl | exact hs.2.1 _ _ rfl | assumption) (by first | exact jk_row_same _ _ _ | ((repeat rewrite [jk_row_ne _ _ (by omega)]); first | exact jk_row_same _ _ _ | exact hK1 | rfl)) (by first | assumption | decide | omega | exact jB_01 _ | exact jB_in _ | exact ⟨by omega, by omega⟩) (by first | assumption | decide | omega | exact jB_01 _ | exact jB_in _ | exact ⟨by omega, by omega⟩) dX3_growReached_52 rfl ?_
        refine jk_iload_n (q := 54) dX3_growReached_53 rfl rfl ?_
        refine jk_aload_n (q := 55) dX3_growReached_54 rfl rfl ?_
        refine jk_getA (q := 58) (k := 3) 0 0 rfl (by first | exact hf1 | exact hs.1 | exact hf2 _ _ rfl | exact hs.2.1 _ _ rfl | assumption) (by first | exact hf4 | exact hf3 _ _ rfl | exact hs.2.2.1 _ _ rfl | assumption) rfl rfl jw_189 dX3_growReached_55 rfl ?_
        refine jk_getA (q := 61) (k := 9) 6 6 rfl (by first | exact hf1 | exact hs.1 | exact hf2 _ _ rfl | exact hs.2.1 _ _ rfl | assumption) (by first | exact hf4 | exact hf3 _ _ rfl | exact hs.2.2.1 _ _ rfl | assumption) rfl rfl jw_87 dX3_growReached_58 rfl ?_
        refine jk_iload_n (q := 62) dX3_growReached_61 rfl rfl ?_
        refine jk_ialdR (q := 63) (by first | exact hf1 | exact hs.1 | exact hf2 _ _ rfl | exact hs.2.1 _ _ rfl | assumption) (by first | exact jk_row_same _ _ _ | ((repeat rewrite [jk_row_ne _ _ (by omega)]); first | exact jk_row_same _ _ _ | exact hK1 | rfl)) (by first | assumption | decide | omega | exact jB_01 _ | exact jB_in _ | exact ⟨by omega, by omega⟩) dX3_growReached_62 rfl ?_
        rw [q3]
        refine jk_iadd (q := 64) dX3_growReached_63 rfl ?_
        refine jk_istore1 (q := 65) dX3_growReached_64 rfl rfl rfl ?_
        refine jk_iinc2 (q := 68) dX3_growReached_65 rfl rfl rfl ?_
        refine jk_goto (q := 4) dX3_growReached_68 rfl ?_
        have eg : cm_gn g Od N (K, 0) (k4 + 1) = (jk_set (jk_set (cm_gn g Od N (K, 0) k4).1 (g (24 + (cm_flo g Od (cm_gn g Od N (K, 0) k4).1 N))) 1) (g (40 + (cm_flo g Od (cm_gn g Od N (K, 0) k4).1 N))) 1, (cm_gn g Od N (K, 0) k4).2 + g (56 + (cm_flo g Od (cm_gn g Od N (K, 0) k4).1 N))) := if_neg (by assumption)
        exact jk_convw (ih4 (by omega) _ (by rw [h1, eg, jk_row_row, jk_row_row])) (jk_wkS rfl (jk_wkS (by rw [eg]) (jk_wkS (jk_li (by omega)) (jk_wkN jk_wk0))))
      · refine jk_goto (q := 71) dX3_growReached_20 rfl ?_
        refine jk_iload_n (q := 72) dX3_growReached_71 rfl rfl ?_
        exact jk_iret rfl dX3_growReached_72 (by refine ⟨?_, rfl, rfl, ?_, rfl⟩ <;> first | (rw [show 9 = k4 by omega]; first | done | exact h1) | (have e9 : (cm_gn g Od N (K, 0) 9) = (cm_gn g Od N (K, 0) k4) := (by have := cm_gn_stop (show (cm_flo g Od (cm_gn g Od N (K, 0) k4).1 N) = -1 by assumption) (9 - k4); rw [show k4 + (9 - k4) = 9 by omega] at this; exact this); rw [e9]; first | done | exact h1))
  exact jk_convw (L4 0 (Nat.zero_le _) _ (by show σ = jk_row σ (f + 4) K; rw [← hK, jk_row_self])) (jk_wkS rfl (jk_wkS rfl (jk_wkS rfl (jk_wkN jk_wk0))))
theorem c_X3_grownLength {G : jk_G} {n : Nat} {t : jk_T} {σ : jk_I} {ρ : jk_P} {f s : Nat} {g : Int → Int} {B : Int} (hf : fo_at t ρ f s) (hr : cl_rel σ s g) (hi : md_inv B g) (hw : md_inw g) (ho : fo_ok σ f g) : jk_K G yX3_grownLength mX3_grownLength 0 0 [.ref f] n t σ ρ (fo_gQ f σ n t ρ (jk_sum (fun l => md_T g l * g (56 + l)) (g 1).toNat)) jk_no := by
  obtain ⟨hf1, hf2, hf3, hf4, hs, hsf⟩ := id hf
  have i0 := hi.1
  have i1 := hi.2.1
  have i2 := hi.2.2.1.2
  have hpt := cm_pt_of hi hw
  obtain ⟨ho1, ho2, N, hN16, hN, hsr⟩ := id ho
  refine jk_entryB (ls := [some (.ref f), none, none]) jm_X3_grownLength.1 rfl rfl rfl ?_
  refine jk_iconst (q := 1) dX3_grownLength_0 rfl ?_
  refine jk_istore1 (q := 2) dX3_grownLength_1 rfl rfl rfl ?_
  have L2 : ∀ k2 : Nat, k2 ≤ 10 → ∀ (σ1 : jk_I), (h1 : σ1 = jk_row σ (f + 4) (jk_fill (σ (f + 4)) (fun _ => 0) k2)) → jk_J G mX3_grownLength 2 [some (.ref f), some (jI (k2 : Int)), none] [] n t σ1 ρ 0 0 (fo_gQ f σ n t ρ (jk_sum (fun l => md_T g l * g (56 + l)) (g 1).toNat)) jk_no := by
    refine jk_loop _ (fun k2 hk2 ih2 => ?_)
    intro σ1 h1
    have hq1 : σ1 (f + 4) = jk_fill (σ (f + 4)) (fun _ => 0) k2 := by rw [h1, jk_row_same]
    refine jk_iload_n (q := 3) dX3_grownLength_2 rfl rfl ?_
    refine jk_bipush (q := 5) (y := 10) dX3_grownLength_3 rfl (by decide) ?_
    refine jk_icmp_ge (q := 21) (q2 := 8) dX3_grownLength_5 rfl rfl (by first | assumption | decide | omega | exact jB_01 _ | exact jB_in _ | exact ⟨by omega, by omega⟩) (by first | assumption | decide | omega | exact jB_01 _ | exact jB_in _ | exact ⟨by omega, by omega⟩) (fun z1 => ?_) (fun z1 => ?_)
    · refine jk_iconst (q := 22) dX3_grownLength_21 rfl ?_
      refine jk_istore1 (q := 23) dX3_grownLength_22 rfl rfl rfl ?_
      refine jk_iconst (q := 24) dX3_grownLength_23 rfl ?_
      refine jk_istore2 (q := 25) dX3_grownLength_24 rfl rfl rfl ?_
      have L25 : ∀ k25 : Nat, k25 ≤ (g 0).toNat → ∀ (σ1 : jk_I) (K1 : Int → Int) (sm : Int), (h1 : σ1 = jk_row σ (f + 4) K1) → (hgo : cm_go g K1 sm) → (hall : ∀ p, 0 ≤ p ∧ p < (k25 : Int) → K1 p = 1) → jk_J G mX3_grownLength 25 [some (.ref f), some (jI sm), some (jI (k25 : Int))] [] n t σ1 ρ 0 0 (fo_gQ f σ n t ρ (jk_sum (fun l => md_T g l * g (56 + l)) (g 1).toNat)) jk_no := by
        refine jk_loop _ (fun k25 hk25 ih25 => ?_)
        intro σ1 K1 sm h1 hgo hall
        have hq1 : σ1 (f + 4) = K1 := by rw [h1, jk_row_same]
        have hr1 : cl_rel σ1 s g := cl_rel_same i2 (fun a h8 h9 => by rw [h1, jk_row_ne _ _ (by omega)]) hr
        refine jk_iload_n (q := 26) dX3_grownLength_25 rfl rfl ?_
        refine jk_aload_n (q := 27) dX3_grownLength_26 rfl rfl ?_
        refine jk_getA (q := 30) (k := 3) 0 0 rfl (by first | exact hf1 | exact hs.1 | exact hf2 _ _ rfl | exact hs.2.1 _ _ rfl | assumption) (by first | exact hf4 | exact hf3 _ _ rfl | exact hs.2.2.1 _ _ rfl | assumption) rfl rfl jw_189 dX3_grownLength_27 rfl ?_
        refine jk_getIR (q := 33) (k := 9) 0 0 rfl (by first | exact hf1 | exact hs.1 | exact hf2 _ _ rfl | exact hs.2.1 _ _ rfl | assumption) (by first | exact jk_row_same _ _ _ | ((repeat rewrite [jk_row_ne _ _ (by omega)]); first | exact jk_row_same _ _ _ | exact hq1 | rfl)) rfl rfl jw_57 dX3_grownLength_30 rfl ?_
        rw [hr1.1.1]
        refine jk_icmp_ge (q := 65) (q2 := 36) dX3_grownLength_33 rfl rfl (by first | assumption | decide | omega | exact jB_01 _ | exact jB_in _ | exact ⟨by omega, by omega⟩) (by first | assumption | decide | omega | exact jB_01 _ | exact jB_in _ | exact ⟨by omega, by omega⟩) (fun z2 => ?_) (fun z2 => ?_)
        · refine jk_iload_n (q := 66) dX3_grownLength_65 rfl rfl ?_
          exact jk_iret rfl dX3_grownLength_66 (by exact ⟨by rw [← cm_go_all hi hpt hgo (fun p hp => hall p ⟨hp.1, by omega⟩)], rfl, rfl, rfl, K1, h1⟩)
        · have hkk := hgo.1 (k25 : Int) ⟨by omega, by omega⟩
          refine jk_aload_n (q := 37) dX3_grownLength_36 rfl rfl ?_
          refine jk_getA (q := 40) (k := 3) 3 3 rfl (by first | exact hf1 | exact hs.1 | exact hf2 _ _ rfl | exact hs.2.1 _ _ rfl | assumption) (by first | exact hf4 | exact hf3 _ _ rfl | exact hs.2.2.1 _ _ rfl | assumption) rfl rfl jw_192 dX3_grownLength_37 rfl ?_
          refine jk_iload_n (q := 41) dX3_grownLength_40 rfl rfl ?_
          refine jk_zaldR (q := 42) (by first | exact hf1 | exact hs.1 | exact hf2 _ _ rfl | exact hs.2.1 _ _ rfl | assumption) (by first | exact jk_row_same _ _ _ | ((repeat rewrite [jk_row_ne _ _ (by omega)]); first | exact jk_row_same _ _ _ | exact hq1 | rfl)) (by first | assumption | decide | omega | exact jB_01 _ | exact jB_in _ | exact ⟨by omega, by omega⟩) dX3_grownLength_41 rfl ?_
          refine jk_if_ne (q := 59) (q2 := 45) dX3_grownLength_42 rfl rfl (by first | assumption | decide | omega | exact jB_01 _ | exact jB_in _ | exact ⟨by omega, by omega⟩) (fun z3 => ?_) (fun z3 => ?_)
          · refine jk_iinc2 (q := 62) dX3_grownLength_59 rfl rfl rfl ?_
            refine jk_goto (q := 25) dX3_grownLength_62 rfl ?_
            exact jk_convw (ih25 (by omega) _ K1 sm h1 hgo (fun p hp => by by_cases e : p = (k25 : Int); (rw [e]; omega); exact hall p ⟨hp.1, by omega⟩)) (jk_wkS rfl (jk_wkS rfl (jk_wkS rfl jk_wk0)))
          · refine jk_aload_n (q := 46) dX3_grownLength_45 rfl rfl ?_
            refine jk_getA (q := 49) (k := 3) 3 3 rfl (by first | exact hf1 | exact hs.1 | exact hf2 _ _ rfl | exact hs.2.1 _ _ rfl | assumption) (by first | exact hf4 | exact hf3 _ _ rfl | exact hs.2.2.1 _ _ rfl | assumption) rfl rfl jw_192 dX3_grownLength_46 rfl ?_
            refine jk_iload_n (q := 50) dX3_grownLength_49 rfl rfl ?_
            refine jk_iconst (q := 51) dX3_grownLength_50 rfl ?_
            refine jk_zastR (q := 52) (by first | exact hf1 | exact hs.1 | exact hf2 _ _ rfl | exact hs.2.1 _ _ rfl | assumption) (by first | exact jk_row_same _ _ _ | ((repeat rewrite [jk_row_ne _ _ (by omega)]); first | exact jk_row_same _ _ _ | exact hq1 | rfl)) (by first | assumption | decide | omega | exact jB_01 _ | exact jB_in _ | exact ⟨by omega, by omega⟩) (by first | assumption | decide | omega | exact jB_01 _ | exact jB_in _ | exact ⟨by omega, by omega⟩) dX3_grownLength_51 rfl ?_
            refine jk_iload_n (q := 53) dX3_grownLength_52 rfl rfl ?_
            refine jk_aload_n (q := 54) dX3_grownLength_53 rfl rfl ?_
            refine jk_cV0p (q := 57) (c_X3_growReached (σ := jk_row σ1 (f + 4) (jk_set K1 (k25 : Int) 1)) (K := jk_set K1 (k25 : Int) 1) (N := N) (Od := σ (f + 2)) hf (cl_rel_same i2 (fun a h8 h9 => by rw [jk_row_ne _ _ (by omega)]) hr1) hi hw (by rw [jk_row_ne _ _ (by omega), h1, jk_row_ne _ _ (by omega)]; exact hN) hN16 (by rw [jk_row_ne _ _ (by omega), h1, jk_row_ne _ _ (by omega)]) hsr (jk_row_same _ _ _) (md_set_kb hgo.1 _)) jm_X3_growReached jw_1001 rfl (by first | exact hf1 | exact hs.1 | exact hf2 _ _ rfl | exact hs.2.1 _ _ rfl | assumption) rfl rfl rfl dX3_grownLength_54 rfl ?_
            refine jk_iadd (q := 58) dX3_grownLength_57 rfl ?_
            refine jk_istore1 (q := 59) dX3_grownLength_58 rfl rfl rfl ?_
            refine jk_iinc2 (q := 62) dX3_grownLength_59 rfl rfl rfl ?_
            refine jk_goto (q := 25) dX3_grownLength_62 rfl ?_
            obtain ⟨w1, w2, w3⟩ := cm_go_grow (N := N) hpt hsr hgo ⟨by omega, by omega⟩ (show K1 (k25 : Int) = 0 by omega)
            exact jk_convw (ih25 (by omega) _ _ _ (by rw [jk_row_row, h1, jk_row_row]) w1 (fun p hp => by by_cases e : p = (k25 : Int); (rw [e]; exact w2); exact w3 p ⟨hp.1, by omega⟩ (hall p ⟨hp.1, by omega⟩))) (jk_wkS rfl (jk_wkS rfl (jk_wkS rfl jk_wk0)))
      have h0 : σ1 = jk_row σ (f + 4) (jk_fill (σ (f + 4)) (fun _ => 0) 10) := by rw [h1, show k2 = 10 by omega]
      exact jk_convw (L25 0 (Nat.zero_le _) _ _ 0 h0 (cm_go_0 (fun p hp => by unfold jk_fill; rw [if_pos (by omega)]) hpt) (fun p hp => absurd hp (by omega))) (jk_wkS rfl (jk_wkS rfl (jk_wkS rfl jk_wk0)))
    · refine jk_aload_n (q := 9) dX3_grownLength_8 rfl rfl ?_
      refine jk_getA (q := 12) (k := 3) 3 3 rfl (by first | exact hf1 | exact hs.1 | exact hf2 _ _ rfl | exact hs.2.1 _ _ rfl | assumption) (by first | exact hf4 | exact hf3 _ _ rfl | exact hs.2.2.1 _ _ rfl | assumption) rfl rfl jw_192 dX3_grownLength_9 rfl ?_
      refine jk_iload_n (q := 13) dX3_grownLength_12 rfl rfl ?_
      refine jk_iconst (q := 14) dX3_grownLength_13 rfl ?_
      refine jk_zastR (q := 15) (by first | exact hf1 | exact hs.1 | exact hf2 _ _ rfl | exact hs.2.1 _ _ rfl | assumption) (by first | exact jk_row_same _ _ _ | ((repeat rewrite [jk_row_ne _ _ (by omega)]); first | exact jk_row_same _ _ _ | exact hq1 | rfl)) (by first | assumption | decide | omega | exact jB_01 _ | exact jB_in _ | exact ⟨by omega, by omega⟩) (by first | assumption | decide | omega | exact jB_01 _ | exact jB_in _ | exact ⟨by omega, by omega⟩) dX3_grownLength_14 rfl ?_
      refine jk_iinc1 (q := 18) dX3_grownLength_15 rfl rfl rfl ?_
      refine jk_goto (q := 2) dX3_grownLength_18 rfl ?_
      exact jk_convw (ih2 (by omega) _ (by rw [h1, jk_row_row]; exact congrArg (jk_row _ (f + 4)) (jk_fill_S _ _ _ _ rfl))) (jk_wkS rfl (jk_wkS rfl (jk_wkN jk_wk0)))
  exact jk_convw (L2 0 (Nat.zero_le _) _ (by rw [jk_fill_0, jk_row_self])) (jk_wkS rfl (jk_wkS rfl (jk_wkN jk_wk0)))
end CF4
