section S3
def md_ndl (Bf : Int → Int) (ty : Int) (l : List Int) (s : md_PS) : md_PS := l.foldl (fun s c => md_nd Bf ty c s) s
section SA
variable {Bf : Int → Int} {ty : Int}
theorem md_nd_t {p c : Int} : md_nd Bf ty c (p, true) = (p, true) := by unfold md_nd; simp
theorem md_ndl_t {p : Int} : ∀ l : List Int, md_ndl Bf ty l (p, true) = (p, true)
  | [] => rfl
  | c :: l => by
    show md_ndl Bf ty l (md_nd Bf ty c (p, true)) = _
    rw [md_nd_t]; exact md_ndl_t l
theorem md_di_t {p : Int} {most : Nat} : md_di Bf ty most (p, true) = ((p, true), 0) := by unfold md_di; simp
theorem md_va_t2 {c : Int} {s : md_PS} {p : Int} (h : md_nd Bf ty c s = (p, true)) : md_va Bf ty c s = ((p, true), 0) := by
  unfold md_va md_lo
  rw [h]
  show ((md_di Bf ty 5 (p + jB false, true)).1, (md_di Bf ty 5 (p + jB false, true)).2) = _
  rw [jB_f, Int.add_zero, md_di_t]
theorem md_va_t {c p : Int} : md_va Bf ty c (p, true) = ((p, true), 0) := md_va_t2 md_nd_t
theorem cs_ndl : ∀ (l : List Int) (p : Int), 0 ≤ p → (∀ c, c ∈ l → 0 < c) → md_ndl Bf ty l (p, false) = (p + (cs_ft Bf ty p l : Nat), decide (cs_ft Bf ty p l < l.length))
  | [], p, _, _ => by show (p, false) = (p + ((0 : Nat) : Int), decide (0 < 0)); rw [show p + ((0 : Nat) : Int) = p by omega]; rfl
  | c :: l, p, hp, hl => by
    show md_ndl Bf ty l (md_nd Bf ty c (p, false)) = _
    have hc := hl c (List.mem_cons_self ..)
    by_cases h : cs_sg Bf ty p = c
    · rw [cs_nd1 hp hc h, cs_ndl l (p + 1) (by omega) (fun c2 h2 => hl c2 (List.mem_cons_of_mem _ h2))]
      have e : cs_ft Bf ty p (c :: l) = 1 + cs_ft Bf ty (p + 1) l := by show (if cs_sg Bf ty p = c then _ else _) = _; rw [if_pos h]
      rw [e, List.length_cons]
      refine Prod.ext ?_ ?_
      · show p + 1 + (cs_ft Bf ty (p + 1) l : Int) = p + ((1 + cs_ft Bf ty (p + 1) l : Nat) : Int); omega
      · exact decide_eq_decide.mpr (by omega)
    · rw [cs_nd0 hp hc h, md_ndl_t]
      have e : cs_ft Bf ty p (c :: l) = 0 := by show (if cs_sg Bf ty p = c then _ else _) = _; rw [if_neg h]
      rw [e, List.length_cons]
      refine Prod.ext ?_ ?_
      · show p = p + ((0 : Nat) : Int); omega
      · show true = decide (0 < l.length + 1); exact (decide_eq_true (Nat.succ_pos _)).symm
/-- the class's reading of a form goes as the model's -/
def cs_rl (s : md_PS) (S : md_PS × Nat × (Int → Int)) (n : Nat) (r : Int → Int) : Prop := S.1 = s ∧ (s.2 = false → S.2 = (n, r))
theorem cs_rl0 {p : Int} {r : Int → Int} : cs_rl (p, false) ((p, false), 0, r) 0 r := ⟨rfl, fun _ => rfl⟩
theorem cs_rl_sp {s : md_PS} {S : md_PS × Nat × (Int → Int)} {n : Nat} {r : Int → Int} {c : Int} (hc : zm_d c = 0) (h : cs_rl s S n r) : cs_rl (md_nd Bf ty c s) (cs_st Bf ty S c) n r := by
  obtain ⟨⟨p, b⟩, m, rr⟩ := S
  obtain ⟨h1, h2⟩ := h
  dsimp only at h1
  subst h1
  cases b
  · have h3 := h2 rfl
    dsimp only at h3
    rw [cs_st_s rfl hc]
    exact ⟨rfl, fun _ => h3⟩
  · rw [cs_st_f rfl, md_nd_t]
    exact ⟨rfl, fun h => absurd (show true = false from h) (by decide)⟩
theorem cs_ar_f2 {p : Int} {most : Nat} : cs_ar Bf ty most false p = md_di Bf ty most (p, false) := by
  unfold cs_ar
  rw [show cs_ng Bf ty false p = false from rfl, jB_f, Int.add_zero]
  rfl
theorem cs_rl_dg {s : md_PS} {S : md_PS × Nat × (Int → Int)} {n : Nat} {r : Int → Int} {c : Int} (most : Nat) (hc : zm_d c = most) (h0 : most ≠ 0) (h118 : decide (c = 118) = false) (hn : n < 4) (h : cs_rl s S n r) : cs_rl (md_di Bf ty most s).1 (cs_st Bf ty S c) (n + 1) (jk_set r (n : Int) (md_di Bf ty most s).2) := by
  obtain ⟨⟨p, b⟩, m, rr⟩ := S
  obtain ⟨h1, h2⟩ := h
  dsimp only at h1
  subst h1
  cases b
  · have h3 := h2 rfl
    dsimp only at h3
    obtain ⟨rfl, rfl⟩ := Prod.mk.inj h3
    rw [cs_st_a rfl (by rw [hc]; exact h0) hn h118, hc, cs_ar_f2]
    exact ⟨rfl, fun _ => rfl⟩
  · rw [cs_st_f rfl, md_di_t]
    exact ⟨rfl, fun h => absurd (show true = false from h) (by decide)⟩
theorem cs_rl_vl {s : md_PS} {S : md_PS × Nat × (Int → Int)} {n : Nat} {r : Int → Int} {c0 : Int} (hn : n < 4) (h : cs_rl (md_nd Bf ty c0 s) S n r) : cs_rl (md_va Bf ty c0 s).1 (cs_st Bf ty S 118) (n + 1) (jk_set r (n : Int) (md_va Bf ty c0 s).2) := by
  obtain ⟨⟨p, b⟩, m, rr⟩ := S
  obtain ⟨h1, h2⟩ := h
  dsimp only at h1
  rw [← h1] at h2
  cases b
  · have h3 := h2 rfl
    dsimp only at h3
    obtain ⟨rfl, rfl⟩ := Prod.mk.inj h3
    have e : md_va Bf ty c0 s = cs_ar Bf ty 5 true p := by unfold md_va md_lo cs_ar cs_ng; rw [← h1]; rfl
    rw [cs_st_a (sg := true) rfl (by decide) hn rfl, e]
    exact ⟨rfl, fun _ => rfl⟩
  · rw [cs_st_f rfl, md_va_t2 h1.symm]
    exact ⟨rfl, fun h => absurd (show true = false from h) (by decide)⟩
end SA
def cs_lt : Nat → Int := fun k => match k with | 0 => 112 | 1 => 102 | 2 => 117 | 3 => 108 | 4 => 98 | 5 => 101 | 6 => 105 | 7 => 104 | 8 => 114 | 9 => 111 | 10 => 115 | _ => 119
def cs_na : Nat → Nat := fun k => match k with | 0 => 0 | 1 => 2 | 2 => 1 | 3 => 4 | 4 => 2 | 5 => 1 | 6 => 1 | 7 => 1 | 8 => 0 | 9 => 1 | 10 => 3 | _ => 1
theorem cs_x0 {Bf : Int → Int} {ty K : Int} {s : md_PS} {P : Int → Int} (h : ¬ md_he Bf ty s.1 = 114) : md_pP Bf ty K s P = ((md_ndl Bf ty [111, 105, 110, 116] s), P) := if_neg h
theorem cs_c0 {Bf : Int → Int} {ty K p : Int} {P : Int → Int} (hl : md_he Bf ty p = 112) (h : ¬ md_he Bf ty (p + 1) = 114) : md_cmd Bf ty K (p, false) P = ((md_ndl Bf ty [111, 105, 110, 116] (p + 1, false)), (jk_set P K 112)) := by
  have e : md_cmd Bf ty K (p, false) P = md_pP Bf ty K (p + 1, false) (jk_set P K 112) := by
    unfold md_cmd
    dsimp only
    rw [hl]
    rw [if_neg (by decide)]; rw [if_neg (by decide)]; rw [if_neg (by decide)]; rw [if_neg (by decide)]; rw [if_neg (by decide)]; rw [if_pos rfl]
  rw [e]
  exact cs_x0 h
theorem cs_e0 {Bf r : Int → Int} {ty K p : Int} {P : Int → Int} (e : (md_ndl Bf ty [111, 105, 110, 116] (p + 1, false)) = (p + 5, false)) : ∃ r', cs_rl ((md_ndl Bf ty [111, 105, 110, 116] (p + 1, false))) (cs_fo Bf ty (zs_tx (zs_fm 0)) (p + 5) r) (cs_na 0) r' ∧ (jk_set P K 112) K = cs_lt 0 ∧ ∀ i : Nat, i < cs_na 0 → (jk_set P K 112) (K + 1 + (i : Int)) = r' (i : Int) := by
  rw [e]
  have h0 : cs_rl (p + 5, false) ((p + 5, false), 0, r) 0 r := cs_rl0
  refine ⟨_, h0, ?_, ?_⟩
  · (repeat rw [jk_set_ne _ _ (by omega)]); rw [jk_set_at]; rfl
  · exact fun i hi => absurd hi (Nat.not_lt_zero _)
theorem cs_d0 {Bf : Int → Int} {ty p p2 : Int} (e : (md_ndl Bf ty [111, 105, 110, 116] (p + 1, false)) = (p2, true)) : (md_ndl Bf ty [111, 105, 110, 116] (p + 1, false)) = (p2, true) := by
  rw [e]
theorem cs_x1 {Bf : Int → Int} {ty K : Int} {s : md_PS} {P : Int → Int} (h : ¬ md_he Bf ty s.1 = 114) : md_pF Bf ty K s P = ((md_va Bf ty 32 (md_di Bf ty 1 (md_ndl Bf ty [105, 120, 32] s)).1).1, (jk_set (jk_set P (K + 1) (md_di Bf ty 1 (md_ndl Bf ty [105, 120, 32] s)).2) (K + 2) (md_va Bf ty 32 (md_di Bf ty 1 (md_ndl Bf ty [105, 120, 32] s)).1).2)) := if_neg h
theorem cs_c1 {Bf : Int → Int} {ty K p : Int} {P : Int → Int} (hl : md_he Bf ty p = 102) (h : ¬ md_he Bf ty (p + 1) = 114) : md_cmd Bf ty K (p, false) P = ((md_va Bf ty 32 (md_di Bf ty 1 (md_ndl Bf ty [105, 120, 32] (p + 1, false))).1).1, (jk_set (jk_set (jk_set P K 102) (K + 1) (md_di Bf ty 1 (md_ndl Bf ty [105, 120, 32] (p + 1, false))).2) (K + 2) (md_va Bf ty 32 (md_di Bf ty 1 (md_ndl Bf ty [105, 120, 32] (p + 1, false))).1).2)) := by
  have e : md_cmd Bf ty K (p, false) P = md_pF Bf ty K (p + 1, false) (jk_set P K 102) := by
    unfold md_cmd
    dsimp only
    rw [hl]
    rw [if_neg (by decide)]; rw [if_neg (by decide)]; rw [if_pos rfl]
  rw [e]
  exact cs_x1 h
theorem cs_e1 {Bf r : Int → Int} {ty K p : Int} {P : Int → Int} (e : (md_ndl Bf ty [105, 120, 32] (p + 1, false)) = (p + 4, false)) : ∃ r', cs_rl ((md_va Bf ty 32 (md_di Bf ty 1 (md_ndl Bf ty [105, 120, 32] (p + 1, false))).1).1) (cs_fo Bf ty (zs_tx (zs_fm 1)) (p + 4) r) (cs_na 1) r' ∧ (jk_set (jk_set (jk_set P K 102) (K + 1) (md_di Bf ty 1 (md_ndl Bf ty [105, 120, 32] (p + 1, false))).2) (K + 2) (md_va Bf ty 32 (md_di Bf ty 1 (md_ndl Bf ty [105, 120, 32] (p + 1, false))).1).2) K = cs_lt 1 ∧ ∀ i : Nat, i < cs_na 1 → (jk_set (jk_set (jk_set P K 102) (K + 1) (md_di Bf ty 1 (md_ndl Bf ty [105, 120, 32] (p + 1, false))).2) (K + 2) (md_va Bf ty 32 (md_di Bf ty 1 (md_ndl Bf ty [105, 120, 32] (p + 1, false))).1).2) (K + 1 + (i : Int)) = r' (i : Int) := by
  rw [e]
  have h0 : cs_rl (p + 4, false) ((p + 4, false), 0, r) 0 r := cs_rl0
  have h1 := cs_rl_dg (Bf := Bf) (ty := ty) (c := 100) 1 rfl (by decide) rfl (by decide) h0
  have h2 := cs_rl_sp (Bf := Bf) (ty := ty) (c := 32) rfl h1
  have h3 := cs_rl_vl (Bf := Bf) (ty := ty) (c0 := 32) (by decide) h2
  refine ⟨_, h3, ?_, ?_⟩
  · (repeat rw [jk_set_ne _ _ (by omega)]); rw [jk_set_at]; rfl
  · exact fun i hi => match i, hi with
    | 0, _ => by (unfold jk_set; (repeat first | rw [if_pos (by omega)] | rw [if_neg (by omega)]))
    | 1, _ => by (unfold jk_set; (repeat first | rw [if_pos (by omega)] | rw [if_neg (by omega)]))
    | i + 2, hi => absurd hi (by show ¬ i + 2 < 2; omega)
theorem cs_d1 {Bf : Int → Int} {ty p p2 : Int} (e : (md_ndl Bf ty [105, 120, 32] (p + 1, false)) = (p2, true)) : (md_va Bf ty 32 (md_di Bf ty 1 (md_ndl Bf ty [105, 120, 32] (p + 1, false))).1).1 = (p2, true) := by
  rw [e, md_di_t, md_va_t]
theorem cs_x2 {Bf : Int → Int} {ty K : Int} {s : md_PS} {P : Int → Int} (h : md_he Bf ty s.1 = 114) : md_pF Bf ty K s P = ((md_di Bf ty 1 (md_ndl Bf ty [114, 101, 101, 32] s)).1, (jk_set (jk_set P K 117) (K + 1) (md_di Bf ty 1 (md_ndl Bf ty [114, 101, 101, 32] s)).2)) := if_pos h
theorem cs_c2 {Bf : Int → Int} {ty K p : Int} {P : Int → Int} (hl : md_he Bf ty p = 102) (h : md_he Bf ty (p + 1) = 114) : md_cmd Bf ty K (p, false) P = ((md_di Bf ty 1 (md_ndl Bf ty [114, 101, 101, 32] (p + 1, false))).1, (jk_set (jk_set (jk_set P K 102) K 117) (K + 1) (md_di Bf ty 1 (md_ndl Bf ty [114, 101, 101, 32] (p + 1, false))).2)) := by
  have e : md_cmd Bf ty K (p, false) P = md_pF Bf ty K (p + 1, false) (jk_set P K 102) := by
    unfold md_cmd
    dsimp only
    rw [hl]
    rw [if_neg (by decide)]; rw [if_neg (by decide)]; rw [if_pos rfl]
  rw [e]
  exact cs_x2 h
theorem cs_e2 {Bf r : Int → Int} {ty K p : Int} {P : Int → Int} (e : (md_ndl Bf ty [114, 101, 101, 32] (p + 1, false)) = (p + 5, false)) : ∃ r', cs_rl ((md_di Bf ty 1 (md_ndl Bf ty [114, 101, 101, 32] (p + 1, false))).1) (cs_fo Bf ty (zs_tx (zs_fm 2)) (p + 5) r) (cs_na 2) r' ∧ (jk_set (jk_set (jk_set P K 102) K 117) (K + 1) (md_di Bf ty 1 (md_ndl Bf ty [114, 101, 101, 32] (p + 1, false))).2) K = cs_lt 2 ∧ ∀ i : Nat, i < cs_na 2 → (jk_set (jk_set (jk_set P K 102) K 117) (K + 1) (md_di Bf ty 1 (md_ndl Bf ty [114, 101, 101, 32] (p + 1, false))).2) (K + 1 + (i : Int)) = r' (i : Int) := by
  rw [e]
  have h0 : cs_rl (p + 5, false) ((p + 5, false), 0, r) 0 r := cs_rl0
  have h1 := cs_rl_dg (Bf := Bf) (ty := ty) (c := 100) 1 rfl (by decide) rfl (by decide) h0
  refine ⟨_, h1, ?_, ?_⟩
  · (repeat rw [jk_set_ne _ _ (by omega)]); rw [jk_set_at]; rfl
  · exact fun i hi => match i, hi with
    | 0, _ => by (unfold jk_set; (repeat first | rw [if_pos (by omega)] | rw [if_neg (by omega)]))
    | i + 1, hi => absurd hi (by show ¬ i + 1 < 1; omega)
theorem cs_d2 {Bf : Int → Int} {ty p p2 : Int} (e : (md_ndl Bf ty [114, 101, 101, 32] (p + 1, false)) = (p2, true)) : (md_di Bf ty 1 (md_ndl Bf ty [114, 101, 101, 32] (p + 1, false))).1 = (p2, true) := by
  rw [e, md_di_t]
theorem cs_x3 {Bf : Int → Int} {ty K : Int} {s : md_PS} {P : Int → Int} : md_pL Bf ty K s P = ((md_di Bf ty 2 (md_nd Bf ty 47 (md_va Bf ty 32 (md_di Bf ty 1 (md_di Bf ty 1 (md_ndl Bf ty [105, 110, 101, 32] s)).1).1).1)).1, (jk_set (jk_set (jk_set (jk_set P (K + 1) (md_di Bf ty 1 (md_ndl Bf ty [105, 110, 101, 32] s)).2) (K + 2) (md_di Bf ty 1 (md_di Bf ty 1 (md_ndl Bf ty [105, 110, 101, 32] s)).1).2) (K + 3) (md_va Bf ty 32 (md_di Bf ty 1 (md_di Bf ty 1 (md_ndl Bf ty [105, 110, 101, 32] s)).1).1).2) (K + 4) (md_di Bf ty 2 (md_nd Bf ty 47 (md_va Bf ty 32 (md_di Bf ty 1 (md_di Bf ty 1 (md_ndl Bf ty [105, 110, 101, 32] s)).1).1).1)).2)) := rfl
theorem cs_c3 {Bf : Int → Int} {ty K p : Int} {P : Int → Int} (hl : md_he Bf ty p = 108) : md_cmd Bf ty K (p, false) P = ((md_di Bf ty 2 (md_nd Bf ty 47 (md_va Bf ty 32 (md_di Bf ty 1 (md_di Bf ty 1 (md_ndl Bf ty [105, 110, 101, 32] (p + 1, false))).1).1).1)).1, (jk_set (jk_set (jk_set (jk_set (jk_set P K 108) (K + 1) (md_di Bf ty 1 (md_ndl Bf ty [105, 110, 101, 32] (p + 1, false))).2) (K + 2) (md_di Bf ty 1 (md_di Bf ty 1 (md_ndl Bf ty [105, 110, 101, 32] (p + 1, false))).1).2) (K + 3) (md_va Bf ty 32 (md_di Bf ty 1 (md_di Bf ty 1 (md_ndl Bf ty [105, 110, 101, 32] (p + 1, false))).1).1).2) (K + 4) (md_di Bf ty 2 (md_nd Bf ty 47 (md_va Bf ty 32 (md_di Bf ty 1 (md_di Bf ty 1 (md_ndl Bf ty [105, 110, 101, 32] (p + 1, false))).1).1).1)).2)) := by
  have e : md_cmd Bf ty K (p, false) P = md_pL Bf ty K (p + 1, false) (jk_set P K 108) := by
    unfold md_cmd
    dsimp only
    rw [hl]
    rw [if_neg (by decide)]; rw [if_neg (by decide)]; rw [if_neg (by decide)]; rw [if_neg (by decide)]; rw [if_pos rfl]
  rw [e]
  exact cs_x3
theorem cs_e3 {Bf r : Int → Int} {ty K p : Int} {P : Int → Int} (e : (md_ndl Bf ty [105, 110, 101, 32] (p + 1, false)) = (p + 5, false)) : ∃ r', cs_rl ((md_di Bf ty 2 (md_nd Bf ty 47 (md_va Bf ty 32 (md_di Bf ty 1 (md_di Bf ty 1 (md_ndl Bf ty [105, 110, 101, 32] (p + 1, false))).1).1).1)).1) (cs_fo Bf ty (zs_tx (zs_fm 3)) (p + 5) r) (cs_na 3) r' ∧ (jk_set (jk_set (jk_set (jk_set (jk_set P K 108) (K + 1) (md_di Bf ty 1 (md_ndl Bf ty [105, 110, 101, 32] (p + 1, false))).2) (K + 2) (md_di Bf ty 1 (md_di Bf ty 1 (md_ndl Bf ty [105, 110, 101, 32] (p + 1, false))).1).2) (K + 3) (md_va Bf ty 32 (md_di Bf ty 1 (md_di Bf ty 1 (md_ndl Bf ty [105, 110, 101, 32] (p + 1, false))).1).1).2) (K + 4) (md_di Bf ty 2 (md_nd Bf ty 47 (md_va Bf ty 32 (md_di Bf ty 1 (md_di Bf ty 1 (md_ndl Bf ty [105, 110, 101, 32] (p + 1, false))).1).1).1)).2) K = cs_lt 3 ∧ ∀ i : Nat, i < cs_na 3 → (jk_set (jk_set (jk_set (jk_set (jk_set P K 108) (K + 1) (md_di Bf ty 1 (md_ndl Bf ty [105, 110, 101, 32] (p + 1, false))).2) (K + 2) (md_di Bf ty 1 (md_di Bf ty 1 (md_ndl Bf ty [105, 110, 101, 32] (p + 1, false))).1).2) (K + 3) (md_va Bf ty 32 (md_di Bf ty 1 (md_di Bf ty 1 (md_ndl Bf ty [105, 110, 101, 32] (p + 1, false))).1).1).2) (K + 4) (md_di Bf ty 2 (md_nd Bf ty 47 (md_va Bf ty 32 (md_di Bf ty 1 (md_di Bf ty 1 (md_ndl Bf ty [105, 110, 101, 32] (p + 1, false))).1).1).1)).2) (K + 1 + (i : Int)) = r' (i : Int) := by
  rw [e]
  have h0 : cs_rl (p + 5, false) ((p + 5, false), 0, r) 0 r := cs_rl0
  have h1 := cs_rl_dg (Bf := Bf) (ty := ty) (c := 100) 1 rfl (by decide) rfl (by decide) h0
  have h2 := cs_rl_dg (Bf := Bf) (ty := ty) (c := 100) 1 rfl (by decide) rfl (by decide) h1
  have h3 := cs_rl_sp (Bf := Bf) (ty := ty) (c := 32) rfl h2
  have h4 := cs_rl_vl (Bf := Bf) (ty := ty) (c0 := 32) (by decide) h3
  have h5 := cs_rl_sp (Bf := Bf) (ty := ty) (c := 47) rfl h4
  have h6 := cs_rl_dg (Bf := Bf) (ty := ty) (c := 110) 2 rfl (by decide) rfl (by decide) h5
  refine ⟨_, h6, ?_, ?_⟩
  · (repeat rw [jk_set_ne _ _ (by omega)]); rw [jk_set_at]; rfl
  · exact fun i hi => match i, hi with
    | 0, _ => by (unfold jk_set; (repeat first | rw [if_pos (by omega)] | rw [if_neg (by omega)]))
    | 1, _ => by (unfold jk_set; (repeat first | rw [if_pos (by omega)] | rw [if_neg (by omega)]))
    | 2, _ => by (unfold jk_set; (repeat first | rw [if_pos (by omega)] | rw [if_neg (by omega)]))
    | 3, _ => by (unfold jk_set; (repeat first | rw [if_pos (by omega)] | rw [if_neg (by omega)]))
    | i + 4, hi => absurd hi (by show ¬ i + 4 < 4; omega)
theorem cs_d3 {Bf : Int → Int} {ty p p2 : Int} (e : (md_ndl Bf ty [105, 110, 101, 32] (p + 1, false)) = (p2, true)) : (md_di Bf ty 2 (md_nd Bf ty 47 (md_va Bf ty 32 (md_di Bf ty 1 (md_di Bf ty 1 (md_ndl Bf ty [105, 110, 101, 32] (p + 1, false))).1).1).1)).1 = (p2, true) := by
  rw [e, md_di_t, md_di_t, md_va_t, md_nd_t, md_di_t]
theorem cs_x4 {Bf : Int → Int} {ty K : Int} {s : md_PS} {P : Int → Int} : md_pB Bf ty K s P = ((md_va Bf ty 32 (md_di Bf ty 2 (md_ndl Bf ty [97, 99, 107, 32] s)).1).1, (jk_set (jk_set P (K + 1) (md_di Bf ty 2 (md_ndl Bf ty [97, 99, 107, 32] s)).2) (K + 2) (md_va Bf ty 32 (md_di Bf ty 2 (md_ndl Bf ty [97, 99, 107, 32] s)).1).2)) := rfl
theorem cs_c4 {Bf : Int → Int} {ty K p : Int} {P : Int → Int} (hl : md_he Bf ty p = 98) : md_cmd Bf ty K (p, false) P = ((md_va Bf ty 32 (md_di Bf ty 2 (md_ndl Bf ty [97, 99, 107, 32] (p + 1, false))).1).1, (jk_set (jk_set (jk_set P K 98) (K + 1) (md_di Bf ty 2 (md_ndl Bf ty [97, 99, 107, 32] (p + 1, false))).2) (K + 2) (md_va Bf ty 32 (md_di Bf ty 2 (md_ndl Bf ty [97, 99, 107, 32] (p + 1, false))).1).2)) := by
  have e : md_cmd Bf ty K (p, false) P = md_pB Bf ty K (p + 1, false) (jk_set P K 98) := by
    unfold md_cmd
    dsimp only
    rw [hl]
    rw [if_pos rfl]
  rw [e]
  exact cs_x4
theorem cs_e4 {Bf r : Int → Int} {ty K p : Int} {P : Int → Int} (e : (md_ndl Bf ty [97, 99, 107, 32] (p + 1, false)) = (p + 5, false)) : ∃ r', cs_rl ((md_va Bf ty 32 (md_di Bf ty 2 (md_ndl Bf ty [97, 99, 107, 32] (p + 1, false))).1).1) (cs_fo Bf ty (zs_tx (zs_fm 4)) (p + 5) r) (cs_na 4) r' ∧ (jk_set (jk_set (jk_set P K 98) (K + 1) (md_di Bf ty 2 (md_ndl Bf ty [97, 99, 107, 32] (p + 1, false))).2) (K + 2) (md_va Bf ty 32 (md_di Bf ty 2 (md_ndl Bf ty [97, 99, 107, 32] (p + 1, false))).1).2) K = cs_lt 4 ∧ ∀ i : Nat, i < cs_na 4 → (jk_set (jk_set (jk_set P K 98) (K + 1) (md_di Bf ty 2 (md_ndl Bf ty [97, 99, 107, 32] (p + 1, false))).2) (K + 2) (md_va Bf ty 32 (md_di Bf ty 2 (md_ndl Bf ty [97, 99, 107, 32] (p + 1, false))).1).2) (K + 1 + (i : Int)) = r' (i : Int) := by
  rw [e]
  have h0 : cs_rl (p + 5, false) ((p + 5, false), 0, r) 0 r := cs_rl0
  have h1 := cs_rl_dg (Bf := Bf) (ty := ty) (c := 110) 2 rfl (by decide) rfl (by decide) h0
  have h2 := cs_rl_sp (Bf := Bf) (ty := ty) (c := 32) rfl h1
  have h3 := cs_rl_vl (Bf := Bf) (ty := ty) (c0 := 32) (by decide) h2
  refine ⟨_, h3, ?_, ?_⟩
  · (repeat rw [jk_set_ne _ _ (by omega)]); rw [jk_set_at]; rfl
  · exact fun i hi => match i, hi with
    | 0, _ => by (unfold jk_set; (repeat first | rw [if_pos (by omega)] | rw [if_neg (by omega)]))
    | 1, _ => by (unfold jk_set; (repeat first | rw [if_pos (by omega)] | rw [if_neg (by omega)]))
    | i + 2, hi => absurd hi (by show ¬ i + 2 < 2; omega)
theorem cs_d4 {Bf : Int → Int} {ty p p2 : Int} (e : (md_ndl Bf ty [97, 99, 107, 32] (p + 1, false)) = (p2, true)) : (md_va Bf ty 32 (md_di Bf ty 2 (md_ndl Bf ty [97, 99, 107, 32] (p + 1, false))).1).1 = (p2, true) := by
  rw [e, md_di_t, md_va_t]
theorem cs_x5 {Bf : Int → Int} {ty K : Int} {s : md_PS} {P : Int → Int} : md_pM Bf ty K 120 99 s P = ((md_di Bf ty 2 (md_ndl Bf ty [120, 99, 108, 117, 100, 101, 32] s)).1, (jk_set P (K + 1) (md_di Bf ty 2 (md_ndl Bf ty [120, 99, 108, 117, 100, 101, 32] s)).2)) := rfl
theorem cs_c5 {Bf : Int → Int} {ty K p : Int} {P : Int → Int} (hl : md_he Bf ty p = 101) : md_cmd Bf ty K (p, false) P = ((md_di Bf ty 2 (md_ndl Bf ty [120, 99, 108, 117, 100, 101, 32] (p + 1, false))).1, (jk_set (jk_set P K 101) (K + 1) (md_di Bf ty 2 (md_ndl Bf ty [120, 99, 108, 117, 100, 101, 32] (p + 1, false))).2)) := by
  have e : md_cmd Bf ty K (p, false) P = md_pM Bf ty K 120 99 (p + 1, false) (jk_set P K 101) := by
    unfold md_cmd
    dsimp only
    rw [hl]
    rw [if_neg (by decide)]; rw [if_pos rfl]
  rw [e]
  exact cs_x5
theorem cs_e5 {Bf r : Int → Int} {ty K p : Int} {P : Int → Int} (e : (md_ndl Bf ty [120, 99, 108, 117, 100, 101, 32] (p + 1, false)) = (p + 8, false)) : ∃ r', cs_rl ((md_di Bf ty 2 (md_ndl Bf ty [120, 99, 108, 117, 100, 101, 32] (p + 1, false))).1) (cs_fo Bf ty (zs_tx (zs_fm 5)) (p + 8) r) (cs_na 5) r' ∧ (jk_set (jk_set P K 101) (K + 1) (md_di Bf ty 2 (md_ndl Bf ty [120, 99, 108, 117, 100, 101, 32] (p + 1, false))).2) K = cs_lt 5 ∧ ∀ i : Nat, i < cs_na 5 → (jk_set (jk_set P K 101) (K + 1) (md_di Bf ty 2 (md_ndl Bf ty [120, 99, 108, 117, 100, 101, 32] (p + 1, false))).2) (K + 1 + (i : Int)) = r' (i : Int) := by
  rw [e]
  have h0 : cs_rl (p + 8, false) ((p + 8, false), 0, r) 0 r := cs_rl0
  have h1 := cs_rl_dg (Bf := Bf) (ty := ty) (c := 110) 2 rfl (by decide) rfl (by decide) h0
  refine ⟨_, h1, ?_, ?_⟩
  · (repeat rw [jk_set_ne _ _ (by omega)]); rw [jk_set_at]; rfl
  · exact fun i hi => match i, hi with
    | 0, _ => by (unfold jk_set; (repeat first | rw [if_pos (by omega)] | rw [if_neg (by omega)]))
    | i + 1, hi => absurd hi (by show ¬ i + 1 < 1; omega)
theorem cs_d5 {Bf : Int → Int} {ty p p2 : Int} (e : (md_ndl Bf ty [120, 99, 108, 117, 100, 101, 32] (p + 1, false)) = (p2, true)) : (md_di Bf ty 2 (md_ndl Bf ty [120, 99, 108, 117, 100, 101, 32] (p + 1, false))).1 = (p2, true) := by
  rw [e, md_di_t]
theorem cs_x6 {Bf : Int → Int} {ty K : Int} {s : md_PS} {P : Int → Int} : md_pM Bf ty K 110 99 s P = ((md_di Bf ty 2 (md_ndl Bf ty [110, 99, 108, 117, 100, 101, 32] s)).1, (jk_set P (K + 1) (md_di Bf ty 2 (md_ndl Bf ty [110, 99, 108, 117, 100, 101, 32] s)).2)) := rfl
theorem cs_c6 {Bf : Int → Int} {ty K p : Int} {P : Int → Int} (hl : md_he Bf ty p = 105) : md_cmd Bf ty K (p, false) P = ((md_di Bf ty 2 (md_ndl Bf ty [110, 99, 108, 117, 100, 101, 32] (p + 1, false))).1, (jk_set (jk_set P K 105) (K + 1) (md_di Bf ty 2 (md_ndl Bf ty [110, 99, 108, 117, 100, 101, 32] (p + 1, false))).2)) := by
  have e : md_cmd Bf ty K (p, false) P = md_pM Bf ty K 110 99 (p + 1, false) (jk_set P K 105) := by
    unfold md_cmd
    dsimp only
    rw [hl]
    rw [if_neg (by decide)]; rw [if_neg (by decide)]; rw [if_neg (by decide)]; rw [if_pos rfl]
  rw [e]
  exact cs_x6
theorem cs_e6 {Bf r : Int → Int} {ty K p : Int} {P : Int → Int} (e : (md_ndl Bf ty [110, 99, 108, 117, 100, 101, 32] (p + 1, false)) = (p + 8, false)) : ∃ r', cs_rl ((md_di Bf ty 2 (md_ndl Bf ty [110, 99, 108, 117, 100, 101, 32] (p + 1, false))).1) (cs_fo Bf ty (zs_tx (zs_fm 6)) (p + 8) r) (cs_na 6) r' ∧ (jk_set (jk_set P K 105) (K + 1) (md_di Bf ty 2 (md_ndl Bf ty [110, 99, 108, 117, 100, 101, 32] (p + 1, false))).2) K = cs_lt 6 ∧ ∀ i : Nat, i < cs_na 6 → (jk_set (jk_set P K 105) (K + 1) (md_di Bf ty 2 (md_ndl Bf ty [110, 99, 108, 117, 100, 101, 32] (p + 1, false))).2) (K + 1 + (i : Int)) = r' (i : Int) := by
  rw [e]
  have h0 : cs_rl (p + 8, false) ((p + 8, false), 0, r) 0 r := cs_rl0
  have h1 := cs_rl_dg (Bf := Bf) (ty := ty) (c := 110) 2 rfl (by decide) rfl (by decide) h0
  refine ⟨_, h1, ?_, ?_⟩
  · (repeat rw [jk_set_ne _ _ (by omega)]); rw [jk_set_at]; rfl
  · exact fun i hi => match i, hi with
    | 0, _ => by (unfold jk_set; (repeat first | rw [if_pos (by omega)] | rw [if_neg (by omega)]))
    | i + 1, hi => absurd hi (by show ¬ i + 1 < 1; omega)
theorem cs_d6 {Bf : Int → Int} {ty p p2 : Int} (e : (md_ndl Bf ty [110, 99, 108, 117, 100, 101, 32] (p + 1, false)) = (p2, true)) : (md_di Bf ty 2 (md_ndl Bf ty [110, 99, 108, 117, 100, 101, 32] (p + 1, false))).1 = (p2, true) := by
  rw [e, md_di_t]
theorem cs_x7 {Bf : Int → Int} {ty K : Int} {s : md_PS} {P : Int → Int} (h : md_he Bf ty s.1 = 104) : md_pSt Bf ty K s P = ((md_di Bf ty 2 (md_ndl Bf ty [104, 97, 114, 101, 32] s)).1, (jk_set (jk_set P K 104) (K + 1) (md_di Bf ty 2 (md_ndl Bf ty [104, 97, 114, 101, 32] s)).2)) := if_pos h
theorem cs_c7 {Bf : Int → Int} {ty K p : Int} {P : Int → Int} (hl : md_he Bf ty p = 115) (h : md_he Bf ty (p + 1) = 104) : md_cmd Bf ty K (p, false) P = ((md_di Bf ty 2 (md_ndl Bf ty [104, 97, 114, 101, 32] (p + 1, false))).1, (jk_set (jk_set (jk_set P K 115) K 104) (K + 1) (md_di Bf ty 2 (md_ndl Bf ty [104, 97, 114, 101, 32] (p + 1, false))).2)) := by
  have e : md_cmd Bf ty K (p, false) P = md_pSt Bf ty K (p + 1, false) (jk_set P K 115) := by
    unfold md_cmd
    dsimp only
    rw [hl]
    rw [if_neg (by decide)]; rw [if_neg (by decide)]; rw [if_neg (by decide)]; rw [if_neg (by decide)]; rw [if_neg (by decide)]; rw [if_neg (by decide)]; rw [if_neg (by decide)]; rw [if_pos rfl]
  rw [e]
  exact cs_x7 h
theorem cs_e7 {Bf r : Int → Int} {ty K p : Int} {P : Int → Int} (e : (md_ndl Bf ty [104, 97, 114, 101, 32] (p + 1, false)) = (p + 6, false)) : ∃ r', cs_rl ((md_di Bf ty 2 (md_ndl Bf ty [104, 97, 114, 101, 32] (p + 1, false))).1) (cs_fo Bf ty (zs_tx (zs_fm 7)) (p + 6) r) (cs_na 7) r' ∧ (jk_set (jk_set (jk_set P K 115) K 104) (K + 1) (md_di Bf ty 2 (md_ndl Bf ty [104, 97, 114, 101, 32] (p + 1, false))).2) K = cs_lt 7 ∧ ∀ i : Nat, i < cs_na 7 → (jk_set (jk_set (jk_set P K 115) K 104) (K + 1) (md_di Bf ty 2 (md_ndl Bf ty [104, 97, 114, 101, 32] (p + 1, false))).2) (K + 1 + (i : Int)) = r' (i : Int) := by
  rw [e]
  have h0 : cs_rl (p + 6, false) ((p + 6, false), 0, r) 0 r := cs_rl0
  have h1 := cs_rl_dg (Bf := Bf) (ty := ty) (c := 110) 2 rfl (by decide) rfl (by decide) h0
  refine ⟨_, h1, ?_, ?_⟩
  · (repeat rw [jk_set_ne _ _ (by omega)]); rw [jk_set_at]; rfl
  · exact fun i hi => match i, hi with
    | 0, _ => by (unfold jk_set; (repeat first | rw [if_pos (by omega)] | rw [if_neg (by omega)]))
    | i + 1, hi => absurd hi (by show ¬ i + 1 < 1; omega)
theorem cs_d7 {Bf : Int → Int} {ty p p2 : Int} (e : (md_ndl Bf ty [104, 97, 114, 101, 32] (p + 1, false)) = (p2, true)) : (md_di Bf ty 2 (md_ndl Bf ty [104, 97, 114, 101, 32] (p + 1, false))).1 = (p2, true) := by
  rw [e, md_di_t]
theorem cs_c8 {Bf : Int → Int} {ty K p : Int} {P : Int → Int} (hl : md_he Bf ty p = 114) : md_cmd Bf ty K (p, false) P = ((md_ndl Bf ty [101, 115, 101, 116] (p + 1, false)), (jk_set P K 114)) := by
  have e : md_cmd Bf ty K (p, false) P = (md_ndl Bf ty [101, 115, 101, 116] (p + 1, false), jk_set P K 114) := by
    unfold md_cmd
    dsimp only
    rw [hl]
    rw [if_neg (by decide)]; rw [if_neg (by decide)]; rw [if_neg (by decide)]; rw [if_neg (by decide)]; rw [if_neg (by decide)]; rw [if_neg (by decide)]; rw [if_pos rfl]; rfl
  rw [e]
theorem cs_e8 {Bf r : Int → Int} {ty K p : Int} {P : Int → Int} (e : (md_ndl Bf ty [101, 115, 101, 116] (p + 1, false)) = (p + 5, false)) : ∃ r', cs_rl ((md_ndl Bf ty [101, 115, 101, 116] (p + 1, false))) (cs_fo Bf ty (zs_tx (zs_fm 8)) (p + 5) r) (cs_na 8) r' ∧ (jk_set P K 114) K = cs_lt 8 ∧ ∀ i : Nat, i < cs_na 8 → (jk_set P K 114) (K + 1 + (i : Int)) = r' (i : Int) := by
  rw [e]
  have h0 : cs_rl (p + 5, false) ((p + 5, false), 0, r) 0 r := cs_rl0
  refine ⟨_, h0, ?_, ?_⟩
  · (repeat rw [jk_set_ne _ _ (by omega)]); rw [jk_set_at]; rfl
  · exact fun i hi => absurd hi (Nat.not_lt_zero _)
theorem cs_d8 {Bf : Int → Int} {ty p p2 : Int} (e : (md_ndl Bf ty [101, 115, 101, 116] (p + 1, false)) = (p2, true)) : (md_ndl Bf ty [101, 115, 101, 116] (p + 1, false)) = (p2, true) := by
  rw [e]
theorem cs_x9 {Bf : Int → Int} {ty K : Int} {s : md_PS} {P : Int → Int} (h : md_he Bf ty s.1 = 114) : md_pP Bf ty K s P = ((md_di Bf ty 1 (md_ndl Bf ty [114, 111, 102, 105, 108, 101, 32] s)).1, (jk_set (jk_set P K 111) (K + 1) (md_di Bf ty 1 (md_ndl Bf ty [114, 111, 102, 105, 108, 101, 32] s)).2)) := if_pos h
theorem cs_c9 {Bf : Int → Int} {ty K p : Int} {P : Int → Int} (hl : md_he Bf ty p = 112) (h : md_he Bf ty (p + 1) = 114) : md_cmd Bf ty K (p, false) P = ((md_di Bf ty 1 (md_ndl Bf ty [114, 111, 102, 105, 108, 101, 32] (p + 1, false))).1, (jk_set (jk_set (jk_set P K 112) K 111) (K + 1) (md_di Bf ty 1 (md_ndl Bf ty [114, 111, 102, 105, 108, 101, 32] (p + 1, false))).2)) := by
  have e : md_cmd Bf ty K (p, false) P = md_pP Bf ty K (p + 1, false) (jk_set P K 112) := by
    unfold md_cmd
    dsimp only
    rw [hl]
    rw [if_neg (by decide)]; rw [if_neg (by decide)]; rw [if_neg (by decide)]; rw [if_neg (by decide)]; rw [if_neg (by decide)]; rw [if_pos rfl]
  rw [e]
  exact cs_x9 h
theorem cs_e9 {Bf r : Int → Int} {ty K p : Int} {P : Int → Int} (e : (md_ndl Bf ty [114, 111, 102, 105, 108, 101, 32] (p + 1, false)) = (p + 8, false)) : ∃ r', cs_rl ((md_di Bf ty 1 (md_ndl Bf ty [114, 111, 102, 105, 108, 101, 32] (p + 1, false))).1) (cs_fo Bf ty (zs_tx (zs_fm 9)) (p + 8) r) (cs_na 9) r' ∧ (jk_set (jk_set (jk_set P K 112) K 111) (K + 1) (md_di Bf ty 1 (md_ndl Bf ty [114, 111, 102, 105, 108, 101, 32] (p + 1, false))).2) K = cs_lt 9 ∧ ∀ i : Nat, i < cs_na 9 → (jk_set (jk_set (jk_set P K 112) K 111) (K + 1) (md_di Bf ty 1 (md_ndl Bf ty [114, 111, 102, 105, 108, 101, 32] (p + 1, false))).2) (K + 1 + (i : Int)) = r' (i : Int) := by
  rw [e]
  have h0 : cs_rl (p + 8, false) ((p + 8, false), 0, r) 0 r := cs_rl0
  have h1 := cs_rl_dg (Bf := Bf) (ty := ty) (c := 100) 1 rfl (by decide) rfl (by decide) h0
  refine ⟨_, h1, ?_, ?_⟩
  · (repeat rw [jk_set_ne _ _ (by omega)]); rw [jk_set_at]; rfl
  · exact fun i hi => match i, hi with
    | 0, _ => by (unfold jk_set; (repeat first | rw [if_pos (by omega)] | rw [if_neg (by omega)]))
    | i + 1, hi => absurd hi (by show ¬ i + 1 < 1; omega)
theorem cs_d9 {Bf : Int → Int} {ty p p2 : Int} (e : (md_ndl Bf ty [114, 111, 102, 105, 108, 101, 32] (p + 1, false)) = (p2, true)) : (md_di Bf ty 1 (md_ndl Bf ty [114, 111, 102, 105, 108, 101, 32] (p + 1, false))).1 = (p2, true) := by
  rw [e, md_di_t]
theorem cs_x10 {Bf : Int → Int} {ty K : Int} {s : md_PS} {P : Int → Int} (h : ¬ md_he Bf ty s.1 = 104) : md_pSt Bf ty K s P = ((md_va Bf ty 58 (md_di Bf ty 2 (md_nd Bf ty 32 (md_di Bf ty 1 (md_ndl Bf ty [116, 97, 116, 105, 111, 110, 32] s)).1)).1).1, (jk_set (jk_set (jk_set P (K + 1) (md_di Bf ty 1 (md_ndl Bf ty [116, 97, 116, 105, 111, 110, 32] s)).2) (K + 2) (md_di Bf ty 2 (md_nd Bf ty 32 (md_di Bf ty 1 (md_ndl Bf ty [116, 97, 116, 105, 111, 110, 32] s)).1)).2) (K + 3) (md_va Bf ty 58 (md_di Bf ty 2 (md_nd Bf ty 32 (md_di Bf ty 1 (md_ndl Bf ty [116, 97, 116, 105, 111, 110, 32] s)).1)).1).2)) := if_neg h
theorem cs_c10 {Bf : Int → Int} {ty K p : Int} {P : Int → Int} (hl : md_he Bf ty p = 115) (h : ¬ md_he Bf ty (p + 1) = 104) : md_cmd Bf ty K (p, false) P = ((md_va Bf ty 58 (md_di Bf ty 2 (md_nd Bf ty 32 (md_di Bf ty 1 (md_ndl Bf ty [116, 97, 116, 105, 111, 110, 32] (p + 1, false))).1)).1).1, (jk_set (jk_set (jk_set (jk_set P K 115) (K + 1) (md_di Bf ty 1 (md_ndl Bf ty [116, 97, 116, 105, 111, 110, 32] (p + 1, false))).2) (K + 2) (md_di Bf ty 2 (md_nd Bf ty 32 (md_di Bf ty 1 (md_ndl Bf ty [116, 97, 116, 105, 111, 110, 32] (p + 1, false))).1)).2) (K + 3) (md_va Bf ty 58 (md_di Bf ty 2 (md_nd Bf ty 32 (md_di Bf ty 1 (md_ndl Bf ty [116, 97, 116, 105, 111, 110, 32] (p + 1, false))).1)).1).2)) := by
  have e : md_cmd Bf ty K (p, false) P = md_pSt Bf ty K (p + 1, false) (jk_set P K 115) := by
    unfold md_cmd
    dsimp only
    rw [hl]
    rw [if_neg (by decide)]; rw [if_neg (by decide)]; rw [if_neg (by decide)]; rw [if_neg (by decide)]; rw [if_neg (by decide)]; rw [if_neg (by decide)]; rw [if_neg (by decide)]; rw [if_pos rfl]
  rw [e]
  exact cs_x10 h
theorem cs_e10 {Bf r : Int → Int} {ty K p : Int} {P : Int → Int} (e : (md_ndl Bf ty [116, 97, 116, 105, 111, 110, 32] (p + 1, false)) = (p + 8, false)) : ∃ r', cs_rl ((md_va Bf ty 58 (md_di Bf ty 2 (md_nd Bf ty 32 (md_di Bf ty 1 (md_ndl Bf ty [116, 97, 116, 105, 111, 110, 32] (p + 1, false))).1)).1).1) (cs_fo Bf ty (zs_tx (zs_fm 10)) (p + 8) r) (cs_na 10) r' ∧ (jk_set (jk_set (jk_set (jk_set P K 115) (K + 1) (md_di Bf ty 1 (md_ndl Bf ty [116, 97, 116, 105, 111, 110, 32] (p + 1, false))).2) (K + 2) (md_di Bf ty 2 (md_nd Bf ty 32 (md_di Bf ty 1 (md_ndl Bf ty [116, 97, 116, 105, 111, 110, 32] (p + 1, false))).1)).2) (K + 3) (md_va Bf ty 58 (md_di Bf ty 2 (md_nd Bf ty 32 (md_di Bf ty 1 (md_ndl Bf ty [116, 97, 116, 105, 111, 110, 32] (p + 1, false))).1)).1).2) K = cs_lt 10 ∧ ∀ i : Nat, i < cs_na 10 → (jk_set (jk_set (jk_set (jk_set P K 115) (K + 1) (md_di Bf ty 1 (md_ndl Bf ty [116, 97, 116, 105, 111, 110, 32] (p + 1, false))).2) (K + 2) (md_di Bf ty 2 (md_nd Bf ty 32 (md_di Bf ty 1 (md_ndl Bf ty [116, 97, 116, 105, 111, 110, 32] (p + 1, false))).1)).2) (K + 3) (md_va Bf ty 58 (md_di Bf ty 2 (md_nd Bf ty 32 (md_di Bf ty 1 (md_ndl Bf ty [116, 97, 116, 105, 111, 110, 32] (p + 1, false))).1)).1).2) (K + 1 + (i : Int)) = r' (i : Int) := by
  rw [e]
  have h0 : cs_rl (p + 8, false) ((p + 8, false), 0, r) 0 r := cs_rl0
  have h1 := cs_rl_dg (Bf := Bf) (ty := ty) (c := 100) 1 rfl (by decide) rfl (by decide) h0
  have h2 := cs_rl_sp (Bf := Bf) (ty := ty) (c := 32) rfl h1
  have h3 := cs_rl_dg (Bf := Bf) (ty := ty) (c := 110) 2 rfl (by decide) rfl (by decide) h2
  have h4 := cs_rl_sp (Bf := Bf) (ty := ty) (c := 58) rfl h3
  have h5 := cs_rl_vl (Bf := Bf) (ty := ty) (c0 := 58) (by decide) h4
  refine ⟨_, h5, ?_, ?_⟩
  · (repeat rw [jk_set_ne _ _ (by omega)]); rw [jk_set_at]; rfl
  · exact fun i hi => match i, hi with
    | 0, _ => by (unfold jk_set; (repeat first | rw [if_pos (by omega)] | rw [if_neg (by omega)]))
    | 1, _ => by (unfold jk_set; (repeat first | rw [if_pos (by omega)] | rw [if_neg (by omega)]))
    | 2, _ => by (unfold jk_set; (repeat first | rw [if_pos (by omega)] | rw [if_neg (by omega)]))
    | i + 3, hi => absurd hi (by show ¬ i + 3 < 3; omega)
theorem cs_d10 {Bf : Int → Int} {ty p p2 : Int} (e : (md_ndl Bf ty [116, 97, 116, 105, 111, 110, 32] (p + 1, false)) = (p2, true)) : (md_va Bf ty 58 (md_di Bf ty 2 (md_nd Bf ty 32 (md_di Bf ty 1 (md_ndl Bf ty [116, 97, 116, 105, 111, 110, 32] (p + 1, false))).1)).1).1 = (p2, true) := by
  rw [e, md_di_t, md_nd_t, md_di_t, md_va_t]
theorem cs_x11 {Bf : Int → Int} {ty K : Int} {s : md_PS} {P : Int → Int} : md_pW Bf ty K s P = ((md_va Bf ty 32 (md_ndl Bf ty [97, 116, 101, 114] s)).1, (jk_set P (K + 1) (md_va Bf ty 32 (md_ndl Bf ty [97, 116, 101, 114] s)).2)) := rfl
theorem cs_c11 {Bf : Int → Int} {ty K p : Int} {P : Int → Int} (hl : md_he Bf ty p = 119) : md_cmd Bf ty K (p, false) P = ((md_va Bf ty 32 (md_ndl Bf ty [97, 116, 101, 114] (p + 1, false))).1, (jk_set (jk_set P K 119) (K + 1) (md_va Bf ty 32 (md_ndl Bf ty [97, 116, 101, 114] (p + 1, false))).2)) := by
  have e : md_cmd Bf ty K (p, false) P = md_pW Bf ty K (p + 1, false) (jk_set P K 119) := by
    unfold md_cmd
    dsimp only
    rw [hl]
    rw [if_neg (by decide)]; rw [if_neg (by decide)]; rw [if_neg (by decide)]; rw [if_neg (by decide)]; rw [if_neg (by decide)]; rw [if_neg (by decide)]; rw [if_neg (by decide)]; rw [if_neg (by decide)]; rw [if_pos rfl]
  rw [e]
  exact cs_x11
theorem cs_e11 {Bf r : Int → Int} {ty K p : Int} {P : Int → Int} (e : (md_ndl Bf ty [97, 116, 101, 114, 32] (p + 1, false)) = (p + 6, false)) : ∃ r', cs_rl ((md_va Bf ty 32 (md_ndl Bf ty [97, 116, 101, 114] (p + 1, false))).1) (cs_fo Bf ty (zs_tx (zs_fm 11)) (p + 6) r) (cs_na 11) r' ∧ (jk_set (jk_set P K 119) (K + 1) (md_va Bf ty 32 (md_ndl Bf ty [97, 116, 101, 114] (p + 1, false))).2) K = cs_lt 11 ∧ ∀ i : Nat, i < cs_na 11 → (jk_set (jk_set P K 119) (K + 1) (md_va Bf ty 32 (md_ndl Bf ty [97, 116, 101, 114] (p + 1, false))).2) (K + 1 + (i : Int)) = r' (i : Int) := by
  have e2 : md_nd Bf ty 32 (md_ndl Bf ty [97, 116, 101, 114] (p + 1, false)) = (p + 6, false) := e
  have h0 : cs_rl (p + 6, false) ((p + 6, false), 0, r) 0 r := cs_rl0
  have h00 : cs_rl (md_nd Bf ty 32 (md_ndl Bf ty [97, 116, 101, 114] (p + 1, false))) ((p + 6, false), 0, r) 0 r := by rw [e2]; exact h0
  have h1 := cs_rl_vl (Bf := Bf) (ty := ty) (c0 := 32) (s := (md_ndl Bf ty [97, 116, 101, 114] (p + 1, false))) (by decide) h00
  refine ⟨_, h1, ?_, ?_⟩
  · (repeat rw [jk_set_ne _ _ (by omega)]); rw [jk_set_at]; rfl
  · exact fun i hi => match i, hi with
    | 0, _ => by (unfold jk_set; (repeat first | rw [if_pos (by omega)] | rw [if_neg (by omega)]))
    | i + 1, hi => absurd hi (by show ¬ i + 1 < 1; omega)
theorem cs_d11 {Bf : Int → Int} {ty p p2 : Int} (e : (md_ndl Bf ty [97, 116, 101, 114, 32] (p + 1, false)) = (p2, true)) : (md_va Bf ty 32 (md_ndl Bf ty [97, 116, 101, 114] (p + 1, false))).1 = (p2, true) := by
  rw [md_va_t2 (s := (md_ndl Bf ty [97, 116, 101, 114] (p + 1, false))) (show md_nd Bf ty 32 (md_ndl Bf ty [97, 116, 101, 114] (p + 1, false)) = (p2, true) from e)]
end S3
