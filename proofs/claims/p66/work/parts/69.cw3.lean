section CW3
/-- the way's c entries: the lines with signs S, each once -/
def wa_sq (σ : jk_I) (w c : Nat) (S : Int → Int) (n : Int) : Prop := σ w 4 = (c : Int) ∧ c ≤ 16 ∧ (∀ i : Nat, i < c → (0 ≤ σ (w + 2) (i : Int) ∧ σ (w + 2) (i : Int) < n) ∧ σ (w + 4) (i : Int) = S (σ (w + 2) (i : Int)) ∧ (S (σ (w + 2) (i : Int)) = 1 ∨ S (σ (w + 2) (i : Int)) = -1)) ∧ (∀ i j : Nat, i < j → j < c → σ (w + 2) (i : Int) ≠ σ (w + 2) (j : Int)) ∧ ∀ k, 0 ≤ k ∧ k < n → S k ≠ 0 → ∃ i : Nat, i < c ∧ σ (w + 2) (i : Int) = k
theorem cm_wsum {n : Nat} {Ln : Int → Int} (F : Int → Int → Int) : ∀ (c : Nat) (S : Int → Int), (∀ i : Nat, i < c → (0 ≤ Ln (i : Int) ∧ Ln (i : Int) < (n : Int)) ∧ S (Ln (i : Int)) ≠ 0) → (∀ i j : Nat, i < j → j < c → Ln (i : Int) ≠ Ln (j : Int)) → (∀ k, 0 ≤ k ∧ k < (n : Int) → S k ≠ 0 → ∃ i : Nat, i < c ∧ Ln (i : Int) = k) → jk_sum (fun i => F (Ln i) (S (Ln i))) c = jk_sum (fun k => if S k = 0 then 0 else F k (S k)) n
  | 0, S, _, _, h3 => by
    have : jk_sum (fun k => if S k = 0 then 0 else F k (S k)) n = jk_sum (fun _ => 0) n := jk_sum_cong n (fun k h0 h1 => if_pos (Classical.byContradiction (fun q => by obtain ⟨i, hi, -⟩ := h3 k ⟨h0, h1⟩ q; exact absurd hi (Nat.not_lt_zero i))))
    rw [this, cm_sum0]; rfl
  | c + 1, S, h1, h2, h3 => by
    have hc := h1 c (by omega)
    have ih := cm_wsum F c (jk_set S (Ln (c : Int)) 0) (Ln := Ln) (fun i hi => ⟨(h1 i (by omega)).1, by rw [jk_set_ne _ _ (h2 i c hi (by omega))]; exact (h1 i (by omega)).2⟩) (fun i j hij hj => h2 i j hij (by omega)) (fun k hk hS => by
      have hne : k ≠ Ln (c : Int) := fun q => by rw [q, jk_set_at] at hS; exact hS rfl
      rw [jk_set_ne _ _ hne] at hS
      obtain ⟨i, hi, e⟩ := h3 k hk hS
      exact ⟨i, Nat.lt_of_le_of_ne (by omega) (fun q => hne (by rw [← e, q])), e⟩)
    show jk_sum (fun i => F (Ln i) (S (Ln i))) c + F (Ln (c : Int)) (S (Ln (c : Int))) = _
    have e1 : jk_sum (fun i => F (Ln i) (S (Ln i))) c = jk_sum (fun i => F (Ln i) (jk_set S (Ln (c : Int)) 0 (Ln i))) c := jk_sum_cong c (fun i h0 h9 => by
      have := h2 i.toNat c (by omega) (by omega)
      rw [show ((i.toNat : Nat) : Int) = i by omega] at this
      rw [jk_set_ne _ _ this])
    have e2 : jk_sum (fun k => if S k = 0 then 0 else F k (S k)) n = jk_sum (jk_set (fun k => if jk_set S (Ln (c : Int)) 0 k = 0 then 0 else F k (jk_set S (Ln (c : Int)) 0 k)) (Ln (c : Int)) (F (Ln (c : Int)) (S (Ln (c : Int))))) n := jk_sum_cong n (fun k h0 h9 => by
      by_cases e : k = Ln (c : Int)
      · rw [e, jk_set_at, if_neg hc.2]
      · rw [jk_set_ne _ _ e, jk_set_ne _ _ e])
    rw [e1, ih, e2, jk_sum_set, if_pos hc.1, jk_set_at, if_pos rfl]
    omega
/-- a path of J steps from v to f0, where points are reached from f0 -/
def cm_pth (g : Int → Int) (f0 v : Int) (J : Nat) : Prop := J ≤ 10 ∧ (md_wlk g (md_reach g (md_T g) f0).2 v J).1 = f0 ∧ ∀ i : Nat, i < J → (md_wlk g (md_reach g (md_T g) f0).2 v i).1 ≠ f0
theorem cm_pth_ex {B : Int} {g : Int → Int} {f0 v : Int} (hi : md_inv B g) (hw : md_inw g) (hf : 0 ≤ f0 ∧ f0 < 10) (hv : 0 ≤ v ∧ v < 10) (hK : (md_reach g (md_T g) f0).1 v = 1) : ∃ J, cm_pth g f0 v J ∧ md_ok g (md_reach g (md_T g) f0).2 v f0 J := by
  obtain ⟨⟨d, h1'⟩, -⟩ := md_rvd_rr (T := md_T g) hi hw hf 10
  have h1 : md_rvd g (md_T g) f0 (md_reach g (md_T g) f0) d := h1'
  have hc := md_cnt_10 h1.1.2.2
  have hd := (h1.2 v hv hK).1
  obtain ⟨J, -, hJ⟩ := md_path hi.2.1.2 h1 10 v hv hK (by omega) (Nat.le_refl _)
  exact ⟨J, ⟨hJ.1, hJ.2.1, fun i hi => (hJ.2.2 i hi).1⟩, hJ⟩
/-- the points and lines of such a path -/
theorem cm_pth_at {B : Int} {g : Int → Int} {f0 v : Int} {J : Nat} (hi : md_inv B g) (hw : md_inw g) (hf : 0 ≤ f0 ∧ f0 < 10) (hv : 0 ≤ v ∧ v < 10) (hK : (md_reach g (md_T g) f0).1 v = 1) (hp : cm_pth g f0 v J) : ∃ d : Int → Int, (∀ i : Nat, i ≤ J → (0 ≤ (md_wlk g (md_reach g (md_T g) f0).2 v i).1 ∧ (md_wlk g (md_reach g (md_T g) f0).2 v i).1 < 10) ∧ (md_reach g (md_T g) f0).1 (md_wlk g (md_reach g (md_T g) f0).2 v i).1 = 1) ∧ (∀ i : Nat, i < J → (0 ≤ (md_reach g (md_T g) f0).2 (md_wlk g (md_reach g (md_T g) f0).2 v i).1 ∧ (md_reach g (md_T g) f0).2 (md_wlk g (md_reach g (md_T g) f0).2 v i).1 < g 1) ∧ md_T g ((md_reach g (md_T g) f0).2 (md_wlk g (md_reach g (md_T g) f0).2 v i).1) = 1 ∧ (g (24 + (md_reach g (md_T g) f0).2 (md_wlk g (md_reach g (md_T g) f0).2 v i).1) = (md_wlk g (md_reach g (md_T g) f0).2 v i).1 ∨ g (40 + (md_reach g (md_T g) f0).2 (md_wlk g (md_reach g (md_T g) f0).2 v i).1) = (md_wlk g (md_reach g (md_T g) f0).2 v i).1) ∧ d (md_wlk g (md_reach g (md_T g) f0).2 v (i + 1)).1 < d (md_wlk g (md_reach g (md_T g) f0).2 v i).1) := by
  obtain ⟨d, hd⟩ := cm_par hi hw hf
  have h1 : ∀ i : Nat, i ≤ J → (0 ≤ (md_wlk g (md_reach g (md_T g) f0).2 v i).1 ∧ (md_wlk g (md_reach g (md_T g) f0).2 v i).1 < 10) ∧ (md_reach g (md_T g) f0).1 (md_wlk g (md_reach g (md_T g) f0).2 v i).1 = 1 := by
    intro i
    induction i with
    | zero => exact fun _ => ⟨hv, hK⟩
    | succ i ih =>
      intro hiJ
      obtain ⟨a1, a2⟩ := ih (by omega)
      have := (hd _ a1 a2).2 (hp.2.2 i (by omega))
      exact ⟨this.2.2.2.1, this.2.2.2.2.1⟩
  refine ⟨d, h1, fun i hiJ => ?_⟩
  obtain ⟨a1, a2⟩ := h1 i (by omega)
  have := (hd _ a1 a2).2 (hp.2.2 i hiJ)
  exact ⟨this.1, this.2.1, this.2.2.1, this.2.2.2.2.2⟩
theorem cm_mono {d : Nat → Int} {J : Nat} (h : ∀ i, i < J → d (i + 1) < d i) : ∀ (k i : Nat), i + k ≤ J → d (i + k) ≤ d i ∧ (0 < k → d (i + k) < d i)
  | 0, i, _ => ⟨Int.le_refl _, fun q => absurd q (Nat.lt_irrefl 0)⟩
  | k + 1, i, hk => by
    have h1 := cm_mono h k i (by omega)
    have h2 := h (i + k) (by omega)
    have h3 : i + (k + 1) = i + k + 1 := by omega
    rw [h3]
    exact ⟨by omega, fun _ => by omega⟩
theorem cm_pth_ne {B : Int} {g : Int → Int} {f0 v : Int} {J : Nat} (hi : md_inv B g) (hw : md_inw g) (hf : 0 ≤ f0 ∧ f0 < 10) (hv : 0 ≤ v ∧ v < 10) (hK : (md_reach g (md_T g) f0).1 v = 1) (hp : cm_pth g f0 v J) : ∀ i j : Nat, i < j → j < J → (md_reach g (md_T g) f0).2 (md_wlk g (md_reach g (md_T g) f0).2 v i).1 ≠ (md_reach g (md_T g) f0).2 (md_wlk g (md_reach g (md_T g) f0).2 v j).1 := by
  obtain ⟨d, -, h2⟩ := cm_pth_at hi hw hf hv hK hp
  intro i j hij hj he
  have hm := cm_mono (d := fun i => d (md_wlk g (md_reach g (md_T g) f0).2 v i).1) (J := J) (fun i hi => (h2 i hi).2.2.2)
  have q1 := hm (j - i) i (by omega)
  have q2 := hm (j + 1 - i) i (by omega)
  rw [show i + (j - i) = j by omega] at q1
  rw [show i + (j + 1 - i) = j + 1 by omega] at q2
  have q1' := q1.2 (by omega)
  have q2' := q2.2 (by omega)
  have e1 := (h2 i (by omega)).2.2.1
  have e2 := (h2 j hj).2.2.1
  rw [he] at e1
  have est : (md_wlk g (md_reach g (md_T g) f0).2 v (j + 1)).1 = if g (24 + (md_reach g (md_T g) f0).2 (md_wlk g (md_reach g (md_T g) f0).2 v j).1) = (md_wlk g (md_reach g (md_T g) f0).2 v j).1 then g (40 + (md_reach g (md_T g) f0).2 (md_wlk g (md_reach g (md_T g) f0).2 v j).1) else g (24 + (md_reach g (md_T g) f0).2 (md_wlk g (md_reach g (md_T g) f0).2 v j).1) := rfl
  have q1'' : d (md_wlk g (md_reach g (md_T g) f0).2 v j).1 < d (md_wlk g (md_reach g (md_T g) f0).2 v i).1 := q1'
  have q2'' : d (md_wlk g (md_reach g (md_T g) f0).2 v (j + 1)).1 < d (md_wlk g (md_reach g (md_T g) f0).2 v i).1 := q2'
  have hor : (md_wlk g (md_reach g (md_T g) f0).2 v i).1 = (md_wlk g (md_reach g (md_T g) f0).2 v j).1 ∨ (md_wlk g (md_reach g (md_T g) f0).2 v i).1 = (md_wlk g (md_reach g (md_T g) f0).2 v (j + 1)).1 := by
    by_cases e : g (24 + (md_reach g (md_T g) f0).2 (md_wlk g (md_reach g (md_T g) f0).2 v j).1) = (md_wlk g (md_reach g (md_T g) f0).2 v j).1
    · rw [if_pos e] at est
      rcases e1 with e1 | e1
      · exact Or.inl (e1.symm.trans e)
      · exact Or.inr (e1.symm.trans est.symm)
    · rw [if_neg e] at est
      rcases e1 with e1 | e1
      · exact Or.inr (e1.symm.trans est.symm)
      · exact Or.inl (e1.symm.trans (e2.resolve_left e))
  rcases hor with e | e <;> rw [e] at q1'' q2'' <;> omega
/-- the signs that the reference sets on such a path -/
theorem cm_pth_S {B : Int} {g : Int → Int} {f0 v : Int} {J : Nat} (hi : md_inv B g) (hw : md_inw g) (hf : 0 ≤ f0 ∧ f0 < 10) (hv : 0 ≤ v ∧ v < 10) (hK : (md_reach g (md_T g) f0).1 v = 1) (hp : cm_pth g f0 v J) : ∀ m : Nat, m ≤ J → (∀ i : Nat, i < m → (md_wlk g (md_reach g (md_T g) f0).2 v m).2 ((md_reach g (md_T g) f0).2 (md_wlk g (md_reach g (md_T g) f0).2 v i).1) = wa_sg g ((md_reach g (md_T g) f0).2 (md_wlk g (md_reach g (md_T g) f0).2 v i).1) (md_wlk g (md_reach g (md_T g) f0).2 v i).1) ∧ ∀ k, (md_wlk g (md_reach g (md_T g) f0).2 v m).2 k ≠ 0 → ∃ i : Nat, i < m ∧ (md_reach g (md_T g) f0).2 (md_wlk g (md_reach g (md_T g) f0).2 v i).1 = k := by
  have hne := cm_pth_ne hi hw hf hv hK hp
  intro m
  induction m with
  | zero => exact fun _ => ⟨fun i hi9 => absurd hi9 (Nat.not_lt_zero i), fun k hk => absurd rfl hk⟩
  | succ m ih =>
    intro hm
    obtain ⟨h1, h2⟩ := ih (by omega)
    have e : (md_wlk g (md_reach g (md_T g) f0).2 v (m + 1)).2 = jk_set (md_wlk g (md_reach g (md_T g) f0).2 v m).2 ((md_reach g (md_T g) f0).2 (md_wlk g (md_reach g (md_T g) f0).2 v m).1) (wa_sg g ((md_reach g (md_T g) f0).2 (md_wlk g (md_reach g (md_T g) f0).2 v m).1) (md_wlk g (md_reach g (md_T g) f0).2 v m).1) := rfl
    rw [e]
    refine ⟨fun i hi9 => ?_, fun k hk => ?_⟩
    · by_cases q : i = m
      · rw [q, jk_set_at]
      · rw [jk_set_ne _ _ (hne i m (by omega) (by omega))]; exact h1 i (by omega)
    · by_cases q : k = (md_reach g (md_T g) f0).2 (md_wlk g (md_reach g (md_T g) f0).2 v m).1
      · exact ⟨m, by omega, q.symm⟩
      · rw [jk_set_ne _ _ q] at hk
        obtain ⟨i, hi9, e9⟩ := h2 k hk
        exact ⟨i, by omega, e9⟩
theorem wa_sg_pm (g : Int → Int) (k v : Int) : wa_sg g k v = 1 ∨ wa_sg g k v = -1 := by unfold wa_sg; split; exact Or.inl rfl; exact Or.inr rfl
/-- a potential falls along the path as the lines say -/
theorem cm_pth_rise {B : Int} {g P : Int → Int} {f0 v : Int} {J : Nat} (hi : md_inv B g) (hw : md_inw g) (hf : 0 ≤ f0 ∧ f0 < 10) (hv : 0 ≤ v ∧ v < 10) (hK : (md_reach g (md_T g) f0).1 v = 1) (hp : cm_pth g f0 v J) (hP : cm_pot g (md_T g) (md_cor g) P) {Ln Sg : Int → Int} (hL : ∀ i : Nat, i < J → Ln (i : Int) = (md_reach g (md_T g) f0).2 (md_wlk g (md_reach g (md_T g) f0).2 v i).1 ∧ Sg (i : Int) = wa_sg g ((md_reach g (md_T g) f0).2 (md_wlk g (md_reach g (md_T g) f0).2 v i).1) (md_wlk g (md_reach g (md_T g) f0).2 v i).1) : ∀ m : Nat, m ≤ J → jk_sum (fun i => Sg i * md_cor g (Ln i)) m = P (md_wlk g (md_reach g (md_T g) f0).2 v m).1 - P v
  | 0, _ => by show (0 : Int) = P v - P v; omega
  | m + 1, hm => by
    obtain ⟨d, -, h2⟩ := cm_pth_at hi hw hf hv hK hp
    have ih := cm_pth_rise hi hw hf hv hK hp hP hL m (by omega)
    obtain ⟨b1, b2, b3, -⟩ := h2 m (by omega)
    obtain ⟨e1, e2⟩ := hL m (by omega)
    have e3 := hP _ b1 b2
    show jk_sum (fun i => Sg i * md_cor g (Ln i)) m + Sg (m : Int) * md_cor g (Ln (m : Int)) = _
    rw [ih, e1, e2]
    have est : (md_wlk g (md_reach g (md_T g) f0).2 v (m + 1)).1 = if g (24 + (md_reach g (md_T g) f0).2 (md_wlk g (md_reach g (md_T g) f0).2 v m).1) = (md_wlk g (md_reach g (md_T g) f0).2 v m).1 then g (40 + (md_reach g (md_T g) f0).2 (md_wlk g (md_reach g (md_T g) f0).2 v m).1) else g (24 + (md_reach g (md_T g) f0).2 (md_wlk g (md_reach g (md_T g) f0).2 v m).1) := rfl
    rw [est]
    unfold wa_sg
    by_cases e : g (24 + (md_reach g (md_T g) f0).2 (md_wlk g (md_reach g (md_T g) f0).2 v m).1) = (md_wlk g (md_reach g (md_T g) f0).2 v m).1
    · rw [if_pos e, if_pos e]; rw [e] at e3; omega
    · rw [if_neg e, if_neg e]; rw [b3.resolve_left e] at e3; omega
theorem c_X11_rise {G : jk_G} {n : Nat} {t : jk_T} {σ : jk_I} {ρ : jk_P} {w f s c : Nat} {g : Int → Int} {B : Int} (hwa : wa_at t ρ w f s) (hr : cl_rel σ s g) (hi : md_inv B g) (hc : σ w 4 = (c : Int)) (hc16 : c ≤ 16) (hLn : ∀ i : Nat, i < c → 0 ≤ σ (w + 2) (i : Int) ∧ σ (w + 2) (i : Int) < g 1) : jk_K G yX11_rise mX11_rise 0 0 [.ref w] n t σ ρ (jk_q (some (jI (jk_sum (fun i => σ (w + 4) i * md_cor g (σ (w + 2) i)) c))) n t σ ρ) jk_no := by
  obtain ⟨⟨ha1, ha2, ha3⟩, ⟨hb1, hb2, hb3, hb4⟩, hf, hfw⟩ := id hwa
  obtain ⟨hf1, hf2, hf3, hf4, hs, hsf⟩ := id hf
  have i0 := hi.1
  have i1 := hi.2.1
  have i2 := hi.2.2.1.2
  refine jk_entryB (ls := [some (.ref w), none, none]) jm_X11_rise.1 rfl rfl rfl ?_
  refine jk_iconst (q := 1) dX11_rise_0 rfl ?_
  refine jk_istore1 (q := 2) dX11_rise_1 rfl rfl rfl ?_
  refine jk_iconst (q := 3) dX11_rise_2 rfl ?_
  refine jk_istore2 (q := 4) dX11_rise_3 rfl rfl rfl ?_
  have L4 : ∀ k4 : Nat, k4 ≤ c → jk_J G mX11_rise 4 [some (.ref w), some (jI (jk_sum (fun i => σ (w + 4) i * md_cor g (σ (w + 2) i)) k4)), some (jI (k4 : Int))] [] n t σ ρ 0 0 (jk_q (some (jI (jk_sum (fun i => σ (w + 4) i * md_cor g (σ (w + 2) i)) c))) n t σ ρ) jk_no := by
    refine jk_loop _ (fun k4 hk4 ih4 => ?_)
    refine jk_iload_n (q := 5) dX11_rise_4 rfl rfl ?_
    refine jk_aload_n (q := 6) dX11_rise_5 rfl rfl ?_
    refine jk_getIR (q := 9) (k := 11) 4 4 rfl (by first | exact ha1 | exact ha2 | exact ha3 | exact hf1 | exact hs.1 | exact hf2 _ _ rfl | exact hs.2.1 _ _ rfl | assumption) (by first | exact jk_row_same _ _ _ | ((repeat rewrite [jk_row_ne _ _ (by omega)]); first | exact jk_row_same _ _ _ | rfl)) rfl rfl jw_224 dX11_rise_6 rfl ?_
    rw [hc]
    refine jk_icmp_ge (q := 41) (q2 := 12) dX11_rise_9 rfl rfl (by first | assumption | decide | omega | exact jB_01 _ | exact jB_in _ | exact ⟨by omega, by omega⟩) (by first | assumption | decide | omega | exact jB_01 _ | exact jB_in _ | exact ⟨by omega, by omega⟩) (fun z1 => ?_) (fun z1 => ?_)
    · refine jk_iload_n (q := 42) dX11_rise_41 rfl rfl ?_
      exact jk_iret rfl dX11_rise_42 (by refine jk_qI ?_; rw [show c = k4 by omega])
    · have hb := hLn k4 (by omega)
      obtain ⟨l1, l2, -⟩ := md_inv_ln hi (l := σ (w + 2) (k4 : Int)) ⟨by omega, by omega⟩
      obtain ⟨q1, q2, q3, -⟩ := hr.2.2.1 _ hb
      refine jk_iload_n (q := 13) dX11_rise_12 rfl rfl ?_
      refine jk_aload_n (q := 14) dX11_rise_13 rfl rfl ?_
      refine jk_getA (q := 17) (k := 11) 3 3 rfl (by first | exact ha1 | exact ha2 | exact ha3 | exact hf1 | exact hs.1 | exact hf2 _ _ rfl | exact hs.2.1 _ _ rfl | assumption) (by first | exact hb1 | exact hb2 | exact hb3 | exact hb4 | exact hf4 | exact hf3 _ _ rfl | exact hs.2.2.1 _ _ rfl | assumption) rfl rfl jw_222 dX11_rise_14 rfl ?_
      refine jk_iload_n (q := 18) dX11_rise_17 rfl rfl ?_
      refine jk_ialdR (q := 19) (by first | exact ha1 | exact ha2 | exact ha3 | exact hf1 | exact hs.1 | exact hf2 _ _ rfl | exact hs.2.1 _ _ rfl | assumption) (by first | exact jk_row_same _ _ _ | ((repeat rewrite [jk_row_ne _ _ (by omega)]); first | exact jk_row_same _ _ _ | rfl)) (by first | assumption | decide | omega | exact jB_01 _ | exact jB_in _ | exact ⟨by omega, by omega⟩) dX11_rise_18 rfl ?_
      refine jk_aload_n (q := 20) dX11_rise_19 rfl rfl ?_
      refine jk_getA (q := 23) (k := 11) 0 0 rfl (by first | exact ha1 | exact ha2 | exact ha3 | exact hf1 | exact hs.1 | exact hf2 _ _ rfl | exact hs.2.1 _ _ rfl | assumption) (by first | exact hb1 | exact hb2 | exact hb3 | exact hb4 | exact hf4 | exact hf3 _ _ rfl | exact hs.2.2.1 _ _ rfl | assumption) rfl rfl jw_218 dX11_rise_20 rfl ?_
      refine jk_aload_n (q := 24) dX11_rise_23 rfl rfl ?_
      refine jk_getA (q := 27) (k := 11) 2 2 rfl (by first | exact ha1 | exact ha2 | exact ha3 | exact hf1 | exact hs.1 | exact hf2 _ _ rfl | exact hs.2.1 _ _ rfl | assumption) (by first | exact hb1 | exact hb2 | exact hb3 | exact hb4 | exact hf4 | exact hf3 _ _ rfl | exact hs.2.2.1 _ _ rfl | assumption) rfl rfl jw_220 dX11_rise_24 rfl ?_
      refine jk_iload_n (q := 28) dX11_rise_27 rfl rfl ?_
      refine jk_ialdR (q := 29) (by first | exact ha1 | exact ha2 | exact ha3 | exact hf1 | exact hs.1 | exact hf2 _ _ rfl | exact hs.2.1 _ _ rfl | assumption) (by first | exact jk_row_same _ _ _ | ((repeat rewrite [jk_row_ne _ _ (by omega)]); first | exact jk_row_same _ _ _ | rfl)) (by first | assumption | decide | omega | exact jB_01 _ | exact jB_in _ | exact ⟨by omega, by omega⟩) dX11_rise_28 rfl ?_
      refine jk_cV1p (q := 32) (c_X9_corrected hs hr hi hb) jm_X9_corrected jw_554 rfl (by first | exact ha1 | exact ha2 | exact ha3 | exact hf1 | exact hs.1 | exact hf2 _ _ rfl | exact hs.2.1 _ _ rfl | assumption) rfl rfl rfl dX11_rise_29 rfl ?_
      refine jk_imul (q := 33) dX11_rise_32 rfl ?_
      refine jk_iadd (q := 34) dX11_rise_33 rfl ?_
      refine jk_istore1 (q := 35) dX11_rise_34 rfl rfl rfl ?_
      refine jk_iinc2 (q := 38) dX11_rise_35 rfl rfl rfl ?_
      refine jk_goto (q := 4) dX11_rise_38 rfl ?_
      exact jk_convw (ih4 (by omega)) (jk_wkS rfl (jk_wkS (jk_li (by rfl)) (jk_wkS rfl jk_wk0)))
  exact jk_convw (L4 0 (Nat.zero_le _)) (jk_wkS rfl (jk_wkS rfl (jk_wkS rfl jk_wk0)))
theorem c_X11_totalLength {G : jk_G} {n : Nat} {t : jk_T} {σ : jk_I} {ρ : jk_P} {w f s c : Nat} {g : Int → Int} {B : Int} (hwa : wa_at t ρ w f s) (hr : cl_rel σ s g) (hi : md_inv B g) (hc : σ w 4 = (c : Int)) (hc16 : c ≤ 16) (hLn : ∀ i : Nat, i < c → 0 ≤ σ (w + 2) (i : Int) ∧ σ (w + 2) (i : Int) < g 1) : jk_K G yX11_totalLength mX11_totalLength 0 0 [.ref w] n t σ ρ (jk_q (some (jI (jk_sum (fun i => g (56 + σ (w + 2) i)) c))) n t σ ρ) jk_no := by
  obtain ⟨⟨ha1, ha2, ha3⟩, ⟨hb1, hb2, hb3, hb4⟩, hf, hfw⟩ := id hwa
  obtain ⟨hf1, hf2, hf3, hf4, hs, hsf⟩ := id hf
  have i0 := hi.1
  have i1 := hi.2.1
  have i2 := hi.2.2.1.2
  refine jk_entryB (ls := [some (.ref w), none, none]) jm_X11_totalLength.1 rfl rfl rfl ?_
  refine jk_iconst (q := 1) dX11_totalLength_0 rfl ?_
  refine jk_istore1 (q := 2) dX11_totalLength_1 rfl rfl rfl ?_
  refine jk_iconst (q := 3) dX11_totalLength_2 rfl ?_
  refine jk_istore2 (q := 4) dX11_totalLength_3 rfl rfl rfl ?_
  have L4 : ∀ k4 : Nat, k4 ≤ c → jk_J G mX11_totalLength 4 [some (.ref w), some (jI (jk_sum (fun i => g (56 + σ (w + 2) i)) k4)), some (jI (k4 : Int))] [] n t σ ρ 0 0 (jk_q (some (jI (jk_sum (fun i => g (56 + σ (w + 2) i)) c))) n t σ ρ) jk_no := by
    refine jk_loop _ (fun k4 hk4 ih4 => ?_)
    refine jk_iload_n (q := 5) dX11_totalLength_4 rfl rfl ?_
    refine jk_aload_n (q := 6) dX11_totalLength_5 rfl rfl ?_
    refine jk_getIR (q := 9) (k := 11) 4 4 rfl (by first | exact ha1 | exact ha2 | exact ha3 | exact hf1 | exact hs.1 | exact hf2 _ _ rfl | exact hs.2.1 _ _ rfl | assumption) (by first | exact jk_row_same _ _ _ | ((repeat rewrite [jk_row_ne _ _ (by omega)]); first | exact jk_row_same _ _ _ | rfl)) rfl rfl jw_224 dX11_totalLength_6 rfl ?_
    rw [hc]
    refine jk_icmp_ge (q := 35) (q2 := 12) dX11_totalLength_9 rfl rfl (by first | assumption | decide | omega | exact jB_01 _ | exact jB_in _ | exact ⟨by omega, by omega⟩) (by first | assumption | decide | omega | exact jB_01 _ | exact jB_in _ | exact ⟨by omega, by omega⟩) (fun z1 => ?_) (fun z1 => ?_)
    · refine jk_iload_n (q := 36) dX11_totalLength_35 rfl rfl ?_
      exact jk_iret rfl dX11_totalLength_36 (by refine jk_qI ?_; rw [show c = k4 by omega])
    · have hb := hLn k4 (by omega)
      obtain ⟨l1, l2, -⟩ := md_inv_ln hi (l := σ (w + 2) (k4 : Int)) ⟨by omega, by omega⟩
      obtain ⟨q1, q2, q3, -⟩ := hr.2.2.1 _ hb
      refine jk_iload_n (q := 13) dX11_totalLength_12 rfl rfl ?_
      refine jk_aload_n (q := 14) dX11_totalLength_13 rfl rfl ?_
      refine jk_getA (q := 17) (k := 11) 0 0 rfl (by first | exact ha1 | exact ha2 | exact ha3 | exact hf1 | exact hs.1 | exact hf2 _ _ rfl | exact hs.2.1 _ _ rfl | assumption) (by first | exact hb1 | exact hb2 | exact hb3 | exact hb4 | exact hf4 | exact hf3 _ _ rfl | exact hs.2.2.1 _ _ rfl | assumption) rfl rfl jw_218 dX11_totalLength_14 rfl ?_
      refine jk_getA (q := 20) (k := 9) 6 6 rfl (by first | exact ha1 | exact ha2 | exact ha3 | exact hf1 | exact hs.1 | exact hf2 _ _ rfl | exact hs.2.1 _ _ rfl | assumption) (by first | exact hb1 | exact hb2 | exact hb3 | exact hb4 | exact hf4 | exact hf3 _ _ rfl | exact hs.2.2.1 _ _ rfl | assumption) rfl rfl jw_88 dX11_totalLength_17 rfl ?_
      refine jk_aload_n (q := 21) dX11_totalLength_20 rfl rfl ?_
      refine jk_getA (q := 24) (k := 11) 2 2 rfl (by first | exact ha1 | exact ha2 | exact ha3 | exact hf1 | exact hs.1 | exact hf2 _ _ rfl | exact hs.2.1 _ _ rfl | assumption) (by first | exact hb1 | exact hb2 | exact hb3 | exact hb4 | exact hf4 | exact hf3 _ _ rfl | exact hs.2.2.1 _ _ rfl | assumption) rfl rfl jw_220 dX11_totalLength_21 rfl ?_
      refine jk_iload_n (q := 25) dX11_totalLength_24 rfl rfl ?_
      refine jk_ialdR (q := 26) (by first | exact ha1 | exact ha2 | exact ha3 | exact hf1 | exact hs.1 | exact hf2 _ _ rfl | exact hs.2.1 _ _ rfl | assumption) (by first | exact jk_row_same _ _ _ | ((repeat rewrite [jk_row_ne _ _ (by omega)]); first | exact jk_row_same _ _ _ | rfl)) (by first | assumption | decide | omega | exact jB_01 _ | exact jB_in _ | exact ⟨by omega, by omega⟩) dX11_totalLength_25 rfl ?_
      refine jk_ialdR (q := 27) (by first | exact ha1 | exact ha2 | exact ha3 | exact hf1 | exact hs.1 | exact hf2 _ _ rfl | exact hs.2.1 _ _ rfl | assumption) (by first | exact jk_row_same _ _ _ | ((repeat rewrite [jk_row_ne _ _ (by omega)]); first | exact jk_row_same _ _ _ | rfl)) (by first | assumption | decide | omega | exact jB_01 _ | exact jB_in _ | exact ⟨by omega, by omega⟩) dX11_totalLength_26 rfl ?_
      refine jk_iadd (q := 28) dX11_totalLength_27 rfl ?_
      refine jk_istore1 (q := 29) dX11_totalLength_28 rfl rfl rfl ?_
      refine jk_iinc2 (q := 32) dX11_totalLength_29 rfl rfl rfl ?_
      refine jk_goto (q := 4) dX11_totalLength_32 rfl ?_
      exact jk_convw (ih4 (by omega)) (jk_wkS rfl (jk_wkS (jk_li (by show jk_sum (fun i => g (56 + σ (w + 2) i)) k4 + g (56 + σ (w + 2) (k4 : Int)) = _; omega)) (jk_wkS rfl jk_wk0)))
  exact jk_convw (L4 0 (Nat.zero_le _)) (jk_wkS rfl (jk_wkS rfl (jk_wkS rfl jk_wk0)))
end CW3
