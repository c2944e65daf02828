section S5
section SC
variable {Bf : Int → Int} {ty p : Int}
theorem md_di_gt {most : Nat} (hm : 0 < most) (h : (md_di Bf ty most (p, false)).1.2 = false) : p + 1 ≤ (md_di Bf ty most (p, false)).1.1 := by
  rw [cs_di] at h ⊢
  have h2 : md_in (md_he Bf ty p) 48 57 = true := by
    revert h
    show (!md_in (md_he Bf ty p) 48 57) = false → _
    cases md_in (md_he Bf ty p) 48 57 <;> decide
  show p + 1 ≤ (md_dl Bf ty most (p, 0)).1
  obtain ⟨m, rfl⟩ : ∃ m, most = m + 1 := ⟨most - 1, by omega⟩
  unfold md_dl
  rw [if_pos h2]
  exact md_dl_ge Bf ty m (p + 1, _)
theorem cs_ar_ge {most : Nat} {sg : Bool} : p ≤ (cs_ar Bf ty most sg p).1.1 := by
  have h := md_di_ge Bf ty most (p + jB (cs_ng Bf ty sg p), false)
  have h2 : 0 ≤ jB (cs_ng Bf ty sg p) := by unfold jB; split <;> decide
  exact Int.le_trans (show p ≤ p + jB (cs_ng Bf ty sg p) by omega) h
theorem cs_ar_gt {most : Nat} {sg : Bool} (hm : 0 < most) (h : (cs_ar Bf ty most sg p).1.2 = false) : p + 1 ≤ (cs_ar Bf ty most sg p).1.1 := by
  have h1 := md_di_gt (p := p + jB (cs_ng Bf ty sg p)) hm h
  have h2 : 0 ≤ jB (cs_ng Bf ty sg p) := by unfold jB; split <;> decide
  exact Int.le_trans (show p + 1 ≤ p + jB (cs_ng Bf ty sg p) + 1 by omega) h1
theorem cs_st_ge {s : md_PS × Nat × (Int → Int)} {c : Int} : s.1.1 ≤ (cs_st Bf ty s c).1.1 := by
  unfold cs_st
  split
  · exact Int.le_refl _
  · split
    · exact md_nd_ge Bf ty c s.1
    · split
      · exact cs_ar_ge
      · exact Int.le_refl _
theorem cs_fold_ge : ∀ (l : List Int) (s : md_PS × Nat × (Int → Int)), s.1.1 ≤ (l.foldl (cs_st Bf ty) s).1.1
  | [], _ => Int.le_refl _
  | c :: l, s => Int.le_trans (cs_st_ge (c := c)) (cs_fold_ge l _)
theorem cs_adv1 {c : Int} {l : List Int} {r : Int → Int} (hz : zm_d c ≠ 0) (h : (cs_fo Bf ty (c :: l) p r).1.2 = false) : p + 1 ≤ (cs_fo Bf ty (c :: l) p r).1.1 := by
  have e := cs_st_a (Bf := Bf) (ty := ty) (s := ((p, false), 0, r)) (c := c) (sg := decide (c = 118)) rfl hz (Nat.zero_lt_succ 3) rfl
  have h2 : (cs_st Bf ty ((p, false), 0, r) c).1.2 = false := by
    cases h3 : (cs_st Bf ty ((p, false), 0, r) c).1.2
    · rfl
    · rw [show cs_fo Bf ty (c :: l) p r = l.foldl (cs_st Bf ty) (cs_st Bf ty ((p, false), 0, r) c) from rfl, cs_fold_f h3, h3] at h
      exact absurd h (by decide)
  refine Int.le_trans ?_ (cs_fold_ge l (cs_st Bf ty ((p, false), 0, r) c))
  rw [e] at h2 ⊢
  exact cs_ar_gt (Nat.pos_of_ne_zero hz) h2
theorem cs_adv {r : Int → Int} : ∀ k, k < 12 → (cs_fo Bf ty (zs_tx (zs_fm k)) (p + (zs_len k : Nat)) r).1.2 = false → p + 5 ≤ (cs_fo Bf ty (zs_tx (zs_fm k)) (p + (zs_len k : Nat)) r).1.1
  | 0, _, _ => by show p + 5 ≤ p + ((5 : Nat) : Int); omega
  | 8, _, _ => by show p + 5 ≤ p + ((5 : Nat) : Int); omega
  | 1, _, h => Int.le_trans (show p + 5 ≤ p + ((4 : Nat) : Int) + 1 by omega) (cs_adv1 (c := 100) (l := [32, 118]) (by decide) h)
  | 2, _, h => Int.le_trans (show p + 5 ≤ p + ((5 : Nat) : Int) + 1 by omega) (cs_adv1 (c := 100) (l := []) (by decide) h)
  | 3, _, h => Int.le_trans (show p + 5 ≤ p + ((5 : Nat) : Int) + 1 by omega) (cs_adv1 (c := 100) (l := [100, 32, 118, 47, 110]) (by decide) h)
  | 4, _, h => Int.le_trans (show p + 5 ≤ p + ((5 : Nat) : Int) + 1 by omega) (cs_adv1 (c := 110) (l := [32, 118]) (by decide) h)
  | 5, _, h => Int.le_trans (show p + 5 ≤ p + ((8 : Nat) : Int) + 1 by omega) (cs_adv1 (c := 110) (l := []) (by decide) h)
  | 6, _, h => Int.le_trans (show p + 5 ≤ p + ((8 : Nat) : Int) + 1 by omega) (cs_adv1 (c := 110) (l := []) (by decide) h)
  | 7, _, h => Int.le_trans (show p + 5 ≤ p + ((6 : Nat) : Int) + 1 by omega) (cs_adv1 (c := 110) (l := []) (by decide) h)
  | 9, _, h => Int.le_trans (show p + 5 ≤ p + ((8 : Nat) : Int) + 1 by omega) (cs_adv1 (c := 100) (l := []) (by decide) h)
  | 10, _, h => Int.le_trans (show p + 5 ≤ p + ((8 : Nat) : Int) + 1 by omega) (cs_adv1 (c := 100) (l := [32, 110, 58, 118]) (by decide) h)
  | 11, _, h => Int.le_trans (show p + 5 ≤ p + ((6 : Nat) : Int) + 1 by omega) (cs_adv1 (c := 118) (l := []) (by decide) h)
  | k + 12, hk, _ => absurd hk (by omega)
def cs_bd (r : Int → Int) : Prop := ∀ m : Int, 0 ≤ m ∧ m < 4 → -99999 ≤ r m ∧ r m ≤ 99999
theorem cs_ar_bd {most : Nat} {sg : Bool} (hm : most ≤ 5) : -99999 ≤ (cs_ar Bf ty most sg p).2 ∧ (cs_ar Bf ty most sg p).2 ≤ 99999 := by
  have h := md_di_bd Bf ty hm (p + jB (cs_ng Bf ty sg p), false)
  unfold cs_ar
  dsimp only
  split <;> omega
theorem cs_st_bd {s : md_PS × Nat × (Int → Int)} {c : Int} (h : cs_bd s.2.2) : cs_bd (cs_st Bf ty s c).2.2 := by
  unfold cs_st
  split
  · exact h
  · split
    · exact h
    · split
      · intro m hm
        show -99999 ≤ jk_set _ _ _ m ∧ jk_set _ _ _ m ≤ 99999
        unfold jk_set
        split
        · exact cs_ar_bd (zm_bd c)
        · exact h m hm
      · exact h
theorem cs_fold_bd : ∀ (l : List Int) (s : md_PS × Nat × (Int → Int)), cs_bd s.2.2 → cs_bd (l.foldl (cs_st Bf ty) s).2.2
  | [], _, h => h
  | c :: l, s, h => cs_fold_bd l _ (cs_st_bd h)
end SC
theorem sc_at_rho {t : jk_T} {ρ ρ' : jk_P} {q : Nat} (h : sc_at t ρ q) (h2 : ∀ a, a ≠ q + 4 → ρ' a = ρ a) : sc_at t ρ' q := by
  obtain ⟨h3, ⟨h4, h5, h6⟩, h7⟩ := h
  exact ⟨h3, ⟨by rw [h2 _ (by omega)]; exact h4, by rw [h2 _ (by omega)]; exact h5, by rw [h2 _ (by omega)]; exact h6⟩, fun i hi => ⟨(h7 i hi).1, by rw [h2 _ (by omega)]; exact (h7 i hi).2⟩⟩
def cs_cQ (Bf : Int → Int) (ty p K : Int) (P : Int → Int) (q d c : Nat) (n : Nat) (t : jk_T) (σ : jk_I) (ρ : jk_P) : jk_Q := fun v' n' t' σ' ρ' =>
  v' = some (jI (jB (!(md_cmd Bf ty K (p, false) P).1.2))) ∧ n' = n ∧ t' = t ∧ σ' q 2 = (md_cmd Bf ty K (p, false) P).1.1 ∧
  ((md_cmd Bf ty K (p, false) P).1.2 = false → p + 5 ≤ (md_cmd Bf ty K (p, false) P).1.1 ∧ σ' q 3 = (c : Int) + 1 ∧ ∃ k, k < 12 ∧ ρ' (q + 4) (c : Int) = some k ∧ (md_cmd Bf ty K (p, false) P).2 K = cs_lt k ∧ ∀ i : Nat, i < cs_na k → (md_cmd Bf ty K (p, false) P).2 (K + 1 + (i : Int)) = σ' d (i : Int)) ∧
  cs_bd (σ' d) ∧ (∀ a, a ≠ q → a ≠ d → σ' a = σ a) ∧ (∀ j, j ≠ 2 → j ≠ 3 → σ' q j = σ q j) ∧ (∀ a, a ≠ q + 4 → ρ' a = ρ a) ∧ ∀ j, j ≠ (c : Int) → ρ' (q + 4) j = ρ (q + 4) j
theorem cs_cQ_f {Bf : Int → Int} {ty p K p2 : Int} {P r2 : Int → Int} {q d c n : Nat} {t : jk_T} {σ : jk_I} {ρ : jk_P} (hd : d ≠ q) (hx : (md_cmd Bf ty K (p, false) P).1 = (p2, true)) (hbd : cs_bd r2) : cs_cQ Bf ty p K P q d c n t σ ρ (some (jI 0)) n t (cs_F σ q d p2 r2) ρ := by
  refine ⟨by rw [hx]; rfl, rfl, rfl, by rw [cs_F_q, jk_set_at, hx], fun h => ?_, by rw [cs_F_d hd]; exact hbd, fun a h1 h2 => cs_F_ne h1 h2 _ _ _, fun j h1 h2 => by rw [cs_F_q, jk_set_ne _ _ h1], fun _ _ => rfl, fun _ _ => rfl⟩
  rw [hx] at h; exact absurd (show true = false from h) (by decide)
theorem cs_cQ_t {Bf : Int → Int} {ty p K : Int} {P r r' : Int → Int} {q d c n k : Nat} {t : jk_T} {σ : jk_I} {ρ : jk_P} (hd : d ≠ q) (hk : k < 12) (hr : cs_bd r) (hw : cs_rl (md_cmd Bf ty K (p, false) P).1 (cs_fo Bf ty (zs_tx (zs_fm k)) (p + (zs_len k : Nat)) r) (cs_na k) r') (hK : (md_cmd Bf ty K (p, false) P).2 K = cs_lt k) (ha : ∀ i : Nat, i < cs_na k → (md_cmd Bf ty K (p, false) P).2 (K + 1 + (i : Int)) = r' (i : Int))
    (hf : (cs_fo Bf ty (zs_tx (zs_fm k)) (p + (zs_len k : Nat)) r).1.2 = false) : cs_cQ Bf ty p K P q d c n t σ ρ (some (jI 1)) n t (jk_row (cs_F σ q d (cs_fo Bf ty (zs_tx (zs_fm k)) (p + (zs_len k : Nat)) r).1.1 (cs_fo Bf ty (zs_tx (zs_fm k)) (p + (zs_len k : Nat)) r).2.2) q (jk_set (jk_set (σ q) 2 (cs_fo Bf ty (zs_tx (zs_fm k)) (p + (zs_len k : Nat)) r).1.1) 3 ((c : Int) + 1))) (jk_up ρ (q + 4) (c : Int) (some k)) := by
  obtain ⟨h1, h2⟩ := hw
  have hf2 := hf
  rw [h1] at hf2
  have hadv := cs_adv k hk hf
  have h3 : (cs_fo Bf ty (zs_tx (zs_fm k)) (p + (zs_len k : Nat)) r).2.2 = r' := by rw [h2 hf2]
  have hB := cs_fold_bd (Bf := Bf) (ty := ty) (zs_tx (zs_fm k)) ((p + (zs_len k : Nat), false), 0, r) hr
  refine ⟨by rw [hf2]; rfl, rfl, rfl, by rw [jk_row_same, jk_set_ne _ _ (by decide), jk_set_at, h1], fun _ => ⟨by rw [← h1]; exact hadv, by rw [jk_row_same, jk_set_at], k, hk, ?_, hK, fun i hi => by rw [jk_row_ne _ _ hd, cs_F_d hd, h3]; exact ha i hi⟩, by rw [jk_row_ne _ _ hd, cs_F_d hd]; exact hB, fun a h4 h5 => by rw [jk_row_ne _ _ h4]; exact cs_F_ne h4 h5 _ _ _, fun j h4 h5 => by rw [jk_row_same, jk_set_ne _ _ h5, jk_set_ne _ _ h4], fun a h4 => ?_, fun j h4 => ?_⟩
  · unfold jk_up; simp
  · funext j; unfold jk_up; simp [h4]
  · unfold jk_up; simp [h4]
theorem cs_ft_in {Bf : Int → Int} {ty : Int} : ∀ (l : List Int) (p : Int), 0 ≤ p → (∀ c, c ∈ l → 0 < c) → p ≤ ty → p + (cs_ft Bf ty p l : Nat) ≤ ty
  | [], p, _, _, h => by show p + ((0 : Nat) : Int) ≤ ty; omega
  | c :: l, p, hp, hl, h => by
    unfold cs_ft
    split
    · rename_i h2
      have hc := hl c (List.mem_cons_self ..)
      have h3 : p < ty := by
        unfold cs_sg at h2
        by_cases h4 : 0 ≤ p ∧ p < ty
        · exact h4.2
        · rw [if_neg h4] at h2; omega
      have := cs_ft_in (Bf := Bf) (ty := ty) l (p + 1) (by omega) (fun c2 h2 => hl c2 (List.mem_cons_of_mem _ h2)) (by omega)
      omega
    · show p + ((0 : Nat) : Int) ≤ ty; omega
theorem zs_tx_pos : ∀ i, i < 20 → ∀ c, c ∈ zs_tx i → 0 < c := by decide
theorem cs_wd_full {Bf : Int → Int} {ty p : Int} {k L : Nat} : ∀ m i f : Nat, i + m = 12 → cs_wd Bf ty p m i f = (some k, L) → k < 12 ∧ L = zs_len k ∧ cs_ft Bf ty p (zs_tx k) = zs_len k
  | 0, i, f, _, h => absurd (Prod.mk.inj h).1 nofun
  | m + 1, i, f, hi, h => by
    unfold cs_wd at h
    by_cases h2 : cs_ft Bf ty p (zs_tx i) = zs_len i
    · rw [if_pos h2] at h
      obtain ⟨h3, h4⟩ := Prod.mk.inj h
      have := Option.some.inj h3
      subst this
      exact ⟨by omega, h4.symm, h2⟩
    · rw [if_neg h2] at h
      exact cs_wd_full m (i + 1) _ (by omega) h
theorem cs_full_ok {Bf : Int → Int} {ty p : Int} {k L : Nat} (h : cs_wd Bf ty p 12 0 0 = (some k, L)) (hp : md_sok ty p) : md_sok ty (p + (L : Nat)) := by
  obtain ⟨h1, h2, h3⟩ := cs_wd_full 12 0 0 rfl h
  have h4 := cs_ft_in (Bf := Bf) (zs_tx k) p hp.1 (zs_tx_pos k (by omega)) hp.2
  rw [h3, ← h2] at h4
  exact ⟨by have := hp.1; omega, h4⟩
theorem zs_fm20 : ∀ k, k < 12 → zs_fm k < 20 := by decide
theorem c_X7_readCommand {G : jk_G} {n : Nat} {t : jk_T} {σ : jk_I} {ρ : jk_P} {q c : Nat} {Bf P : Int → Int} {ty p K : Int} (hz : zz_ok G) (hv : zv_ok G) (hq : sc_at t ρ q) (hs : σ q 1 = ty) (hb : σ (q + 2) = Bf) (hB : ∀ j, 0 ≤ j ∧ j < 60 → 0 ≤ Bf j ∧ Bf j < 65536) (hty : 0 ≤ ty ∧ ty ≤ 60) (hp2 : σ q 2 = p) (hp : md_sok ty p) (hc2 : σ q 3 = (c : Int)) (hc : c < 10) (hbd : cs_bd (σ (q + (8 + 2 * c)))) : jk_K G yX7_readCommand mX7_readCommand 0 0 [.ref q] n t σ ρ (cs_cQ Bf ty p K P q (q + (8 + 2 * c)) c n t σ ρ) jk_no := by
  have hd : (q + (8 + 2 * c)) ≠ q := by omega
  have hd2 : (q + (8 + 2 * c)) ≠ q + 2 := by omega
  have hb2 : ∀ p r, cs_F σ q (q + (8 + 2 * c)) p r (q + 2) = Bf := fun p r => (cs_F_ne (by omega) (Ne.symm hd2) σ p r).trans hb
  have hc9 : ∀ p9, jk_set (σ q) 2 p9 3 = (c : Int) := fun p9 => by rw [jk_set_ne _ _ (by decide)]; exact hc2
  have hcq := cs_cmd (Bf := Bf) (ty := ty) (K := K) (P := P) (r := σ (q + (8 + 2 * c))) hp.1
  refine jk_entryB (ls := [some (.ref q), none]) jm_X7_readCommand.1 rfl rfl rfl ?_
  refine jk_conv (σ := cs_F σ q (q + (8 + 2 * c)) p (σ (q + (8 + 2 * c)))) ?_ rfl (cs_F_id (q + (8 + 2 * c)) hp2)
  rcases hcq with ⟨hW, hM⟩ | ⟨k, hk, hW, r', hw, hK, ha⟩
  · generalize hW2 : cs_wd Bf ty p 12 0 0 = W9 at hW hM
    obtain ⟨W1, f⟩ := W9
    dsimp only at hW hM
    subst hW
    have hW := hW2
    refine jk_aload_n (q := 1) dX7_readCommand_0 rfl rfl ?_
    refine jk_cV0p (q := 4) (c_X7_readWord (p := p) (r := σ (q + (8 + 2 * c))) hq hs hb hB hty hd hd2 hz hv hp) jm_X7_readWord jw_1515 rfl (by first | exact hq.1.1 | exact hq.1.2.1 | exact hq.1.2.2.1 | exact hq.1.2.2.2 | assumption) rfl rfl rfl dX7_readCommand_1 rfl ?_
    rw [hW]
    simp only [cs_kv]
    refine jk_aNstore1 (q := 5) dX7_readCommand_4 rfl rfl rfl ?_
    refine jk_aload_nN (q := 6) dX7_readCommand_5 rfl rfl ?_
    refine jk_ifnullN (q := 38) dX7_readCommand_6 rfl ?_
    refine jk_iconst (q := 39) dX7_readCommand_38 rfl ?_
    exact jk_zret rfl (by first | assumption | decide | omega | exact jB_01 _ | exact jB_in _ | exact ⟨by omega, by omega⟩) dX7_readCommand_39 (by exact cs_cQ_f hd hM hbd)
  · have hfm := zs_fm20 k hk
    have hO : ∀ s, jk_Z G s → va_O "LevelingNetwork$Kind" (jk_ad G k) (jk_A G) s s.heap := fun s h => by have := (hz.1 k hk s h).2.1; rw [Nat.zero_add] at this; exact this
    have hpk : md_sok ty (p + (zs_len k : Nat)) := cs_full_ok hW hp
    refine jk_aload_n (q := 1) dX7_readCommand_0 rfl rfl ?_
    refine jk_cV0p (q := 4) (c_X7_readWord (p := p) (r := σ (q + (8 + 2 * c))) hq hs hb hB hty hd hd2 hz hv hp) jm_X7_readWord jw_1515 rfl (by first | exact hq.1.1 | exact hq.1.2.1 | exact hq.1.2.2.1 | exact hq.1.2.2.2 | assumption) rfl rfl rfl dX7_readCommand_1 rfl ?_
    rw [hW]
    simp only [cs_kv]
    refine jk_astore1 (q := 5) dX7_readCommand_4 rfl rfl rfl ?_
    refine jk_aload_n (q := 6) dX7_readCommand_5 rfl rfl ?_
    refine jk_ifnull (q := 9) dX7_readCommand_6 rfl ?_
    refine jk_aload_n (q := 10) dX7_readCommand_9 rfl rfl ?_
    refine jk_getIR (q := 13) (k := 7) 3 3 rfl (by first | exact hq.1.1 | exact hq.1.2.1 | exact hq.1.2.2.1 | exact hq.1.2.2.2 | assumption) (by first | exact hb2 _ _ | exact cs_F_q _ _ _ _ _ | exact cs_F_d hd _ _ _ | rfl) rfl rfl jw_322 dX7_readCommand_10 rfl ?_
    rw [hc9]
    refine jk_bipush (q := 15) (y := 10) dX7_readCommand_13 rfl (by decide) ?_
    refine jk_icmp_ge (q := 38) (q2 := 18) dX7_readCommand_15 rfl rfl (by first | assumption | decide | omega | exact jB_01 _ | exact jB_in _ | exact ⟨by omega, by omega⟩) (by first | assumption | decide | omega | exact jB_01 _ | exact jB_in _ | exact ⟨by omega, by omega⟩) (fun z1 => ?_) (fun z1 => ?_)
    · refine jk_iconst (q := 39) dX7_readCommand_38 rfl ?_
      exact jk_zret rfl (by first | assumption | decide | omega | exact jB_01 _ | exact jB_in _ | exact ⟨by omega, by omega⟩) dX7_readCommand_39 (by first | (exfalso; omega) | (exact cs_cQ_f hd (by rw [← hw.1]; exact Prod.ext rfl (by show (cs_fo Bf ty (zs_tx (zs_fm k)) (p + (zs_len k : Nat)) (σ (q + (8 + 2 * c)))).1.2 = true; have h9 := ‹(!(cs_fo Bf ty (zs_tx (zs_fm k)) (p + (zs_len k : Nat)) (σ (q + (8 + 2 * c)))).1.2) = false›; revert h9; cases (cs_fo Bf ty (zs_tx (zs_fm k)) (p + (zs_len k : Nat)) (σ (q + (8 + 2 * c)))).1.2 <;> decide)) (cs_fold_bd _ ((p + (zs_len k : Nat), false), 0, σ (q + (8 + 2 * c))) hbd)))
    · refine jk_aload_n (q := 19) dX7_readCommand_18 rfl rfl ?_
      refine jk_aload_n (q := 20) dX7_readCommand_19 rfl rfl ?_
      refine jk_oget (q := 23) (v := .ref (21 + zs_fm k)) (zz_form hz hk) jw_1785 dX7_readCommand_20 rfl ?_
      refine jk_aload_n (q := 24) dX7_readCommand_23 rfl rfl ?_
      refine jk_getA (q := 27) (k := 7) 5 5 rfl (by first | exact hq.1.1 | exact hq.1.2.1 | exact hq.1.2.2.1 | exact hq.1.2.2.2 | assumption) (by first | exact hq.2.1.1 | exact hq.2.1.2.1 | exact hq.2.1.2.2 | exact (hq.2.2 c hc).2) rfl rfl jw_326 dX7_readCommand_24 rfl ?_
      refine jk_aload_n (q := 28) dX7_readCommand_27 rfl rfl ?_
      refine jk_getIR (q := 31) (k := 7) 3 3 rfl (by first | exact hq.1.1 | exact hq.1.2.1 | exact hq.1.2.2.1 | exact hq.1.2.2.2 | assumption) (by first | exact hb2 _ _ | exact cs_F_q _ _ _ _ _ | exact cs_F_d hd _ _ _ | rfl) rfl rfl jw_322 dX7_readCommand_28 rfl ?_
      rw [hc9]
      refine jk_aald (q := 32) (ty := .array .int) rfl rfl (by first | exact hq.1.1 | exact hq.1.2.1 | exact hq.1.2.2.1 | exact hq.1.2.2.2 | assumption) (by first | assumption | decide | omega | exact jB_01 _ | exact jB_in _ | exact ⟨by omega, by omega⟩) (by first | exact hq.2.1.1 | exact hq.2.1.2.1 | exact hq.2.1.2.2 | exact (hq.2.2 c hc).2) dX7_readCommand_31 rfl ?_
      refine jk_cV2p (q := 35) (c_X7_readForm (i := zs_fm k) (p := p + (zs_len k : Nat)) (r := σ (q + (8 + 2 * c))) hq hs hb hB hty hd hd2 hz hv hfm hpk (hq.2.2 c hc).1) jm_X7_readForm jw_1546 rfl (by first | exact hq.1.1 | exact hq.1.2.1 | exact hq.1.2.2.1 | exact hq.1.2.2.2 | assumption) rfl rfl rfl dX7_readCommand_32 rfl ?_
      refine jk_ifB_ne (q := 40) (q2 := 38) dX7_readCommand_35 rfl rfl (fun z2 => ?_) (fun z2 => ?_)
      · refine jk_aload_n (q := 41) dX7_readCommand_40 rfl rfl ?_
        refine jk_getA (q := 44) (k := 7) 4 4 rfl (by first | exact hq.1.1 | exact hq.1.2.1 | exact hq.1.2.2.1 | exact hq.1.2.2.2 | assumption) (by first | exact hq.2.1.1 | exact hq.2.1.2.1 | exact hq.2.1.2.2 | exact (hq.2.2 c hc).2) rfl rfl jw_324 dX7_readCommand_41 rfl ?_
        refine jk_aload_n (q := 45) dX7_readCommand_44 rfl rfl ?_
        refine jk_getIR (q := 48) (k := 7) 3 3 rfl (by first | exact hq.1.1 | exact hq.1.2.1 | exact hq.1.2.2.1 | exact hq.1.2.2.2 | assumption) (by first | exact hb2 _ _ | exact cs_F_q _ _ _ _ _ | exact cs_F_d hd _ _ _ | rfl) rfl rfl jw_322 dX7_readCommand_45 rfl ?_
        rw [hc9]
        refine jk_aload_n (q := 49) dX7_readCommand_48 rfl rfl ?_
        refine jk_aast (q := 50) (by first | exact hq.1.1 | exact hq.1.2.1 | exact hq.1.2.2.1 | exact hq.1.2.2.2 | assumption) (by first | assumption | decide | omega | exact jB_01 _ | exact jB_in _ | exact ⟨by omega, by omega⟩) jw_21 (Or.inr (by assumption)) dX7_readCommand_49 rfl ?_
        refine jk_aload_n (q := 51) dX7_readCommand_50 rfl rfl ?_
        refine jk_dup (q := 52) dX7_readCommand_51 rfl rfl ?_
        refine jk_getIR (q := 55) (k := 7) 3 3 rfl (by first | exact hq.1.1 | exact hq.1.2.1 | exact hq.1.2.2.1 | exact hq.1.2.2.2 | assumption) (by first | exact hb2 _ _ | exact cs_F_q _ _ _ _ _ | exact cs_F_d hd _ _ _ | rfl) rfl rfl jw_322 dX7_readCommand_52 rfl ?_
        rw [hc9]
        refine jk_iconst (q := 56) dX7_readCommand_55 rfl ?_
        refine jk_iadd (q := 57) dX7_readCommand_56 rfl ?_
        refine jk_putIR (q := 60) (k := 7) 3 3 rfl (by first | exact hq.1.1 | exact hq.1.2.1 | exact hq.1.2.2.1 | exact hq.1.2.2.2 | assumption) (by first | exact hb2 _ _ | exact cs_F_q _ _ _ _ _ | exact cs_F_d hd _ _ _ | rfl) rfl rfl rfl jw_322 dX7_readCommand_57 rfl ?_
        refine jk_iconst (q := 61) dX7_readCommand_60 rfl ?_
        exact jk_zret rfl (by first | assumption | decide | omega | exact jB_01 _ | exact jB_in _ | exact ⟨by omega, by omega⟩) dX7_readCommand_61 (by exact cs_cQ_t hd hk hbd hw hK ha (by first | (have h9 := ‹(!(cs_fo Bf ty (zs_tx (zs_fm k)) (p + (zs_len k : Nat)) (σ (q + (8 + 2 * c)))).1.2) = true›; revert h9; cases (cs_fo Bf ty (zs_tx (zs_fm k)) (p + (zs_len k : Nat)) (σ (q + (8 + 2 * c)))).1.2 <;> decide)))
      · refine jk_iconst (q := 39) dX7_readCommand_38 rfl ?_
        exact jk_zret rfl (by first | assumption | decide | omega | exact jB_01 _ | exact jB_in _ | exact ⟨by omega, by omega⟩) dX7_readCommand_39 (by first | (exfalso; omega) | (exact cs_cQ_f hd (by rw [← hw.1]; exact Prod.ext rfl (by show (cs_fo Bf ty (zs_tx (zs_fm k)) (p + (zs_len k : Nat)) (σ (q + (8 + 2 * c)))).1.2 = true; have h9 := ‹(!(cs_fo Bf ty (zs_tx (zs_fm k)) (p + (zs_len k : Nat)) (σ (q + (8 + 2 * c)))).1.2) = false›; revert h9; cases (cs_fo Bf ty (zs_tx (zs_fm k)) (p + (zs_len k : Nat)) (σ (q + (8 + 2 * c)))).1.2 <;> decide)) (cs_fold_bd _ ((p + (zs_len k : Nat), false), 0, σ (q + (8 + 2 * c))) hbd)))
end S5
