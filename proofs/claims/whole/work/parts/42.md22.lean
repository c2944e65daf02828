section MD22
/-- the heap with the parser's place sp, its flag w and the commands P -/
def md_pS (σ : jk_I) (m : Nat) (O : Int → Int) (sp : Int) (w : Bool) (P : Int → Int) : jk_I := jk_row (jk_row σ (m + 28) P) m (jk_set (jk_set O 20 sp) 21 (jB w))
theorem md_pS_m (σ : jk_I) (m : Nat) (O : Int → Int) (sp : Int) (w : Bool) (P : Int → Int) : md_pS σ m O sp w P m = jk_set (jk_set O 20 sp) 21 (jB w) := jk_row_same _ _ _
theorem md_pS_p (σ : jk_I) (m : Nat) (O : Int → Int) (sp : Int) (w : Bool) (P : Int → Int) : md_pS σ m O sp w P (m + 28) = P := by unfold md_pS; rw [jk_row_ne _ _ (by omega), jk_row_same]
theorem md_pS_ne (σ : jk_I) (m : Nat) (O : Int → Int) (sp : Int) (w : Bool) (P : Int → Int) {a : Nat} (h1 : a ≠ m) (h2 : a ≠ m + 28) : md_pS σ m O sp w P a = σ a := by unfold md_pS; rw [jk_row_ne _ _ h1, jk_row_ne _ _ h2]
theorem md_pS_sp (σ : jk_I) (m : Nat) (O : Int → Int) (sp : Int) (w : Bool) (P : Int → Int) (c : Int) : jk_row (md_pS σ m O sp w P) m (jk_set (jk_set (jk_set O 20 sp) 21 (jB w)) 20 c) = md_pS σ m O c w P := by
  unfold md_pS
  rw [jk_row_row]
  congr 1
  funext j
  unfold jk_set
  by_cases h1 : j = 20
  · subst h1; simp
  · simp [h1]
theorem md_pS_w (σ : jk_I) (m : Nat) (O : Int → Int) (sp : Int) (w w2 : Bool) (P : Int → Int) : jk_row (md_pS σ m O sp w P) m (jk_set (jk_set (jk_set O 20 sp) 21 (jB w)) 21 (jB w2)) = md_pS σ m O sp w2 P := by
  unfold md_pS; rw [jk_row_row, jk_set_set]
theorem md_pS_P (σ : jk_I) (m : Nat) (O : Int → Int) (sp : Int) (w : Bool) (P X : Int → Int) : jk_row (md_pS σ m O sp w P) (m + 28) X = md_pS σ m O sp w X := by
  unfold md_pS; rw [jk_row_comm _ _ _ (by omega), jk_row_row]
theorem md_f20 (O : Int → Int) (a b : Int) : jk_set (jk_set O 20 a) 21 b 20 = a := by rw [jk_set_ne _ _ (by decide), jk_set_at]
theorem md_f7 (O : Int → Int) (a b : Int) : jk_set (jk_set O 20 a) 21 b 7 = O 7 := by rw [jk_set_ne _ _ (by decide), jk_set_ne _ _ (by decide)]
def md_he (Bf : Int → Int) (ty sp : Int) : Int := if sp < ty then Bf sp else -1
abbrev md_PS : Type := Int × Bool
def md_nd (Bf : Int → Int) (ty c : Int) (s : md_PS) : md_PS := (if (s.2 || decide (md_he Bf ty s.1 ≠ c)) = true then s.1 else s.1 + 1, s.2 || decide (md_he Bf ty s.1 ≠ c))
def md_n3 (Bf : Int → Int) (ty a b c : Int) (s : md_PS) : md_PS := md_nd Bf ty c (md_nd Bf ty b (md_nd Bf ty a s))
def md_dl (Bf : Int → Int) (ty : Int) : Nat → Int × Int → Int × Int
  | 0, x => x
  | f + 1, x => if md_in (md_he Bf ty x.1) 48 57 = true then md_dl Bf ty f (x.1 + 1, 10 * x.2 + md_he Bf ty x.1 - 48) else x
def md_di (Bf : Int → Int) (ty : Int) (most : Nat) (s : md_PS) : md_PS × Int :=
  if (s.2 || !md_in (md_he Bf ty s.1) 48 57) = true then ((s.1, true), 0) else (((md_dl Bf ty most (s.1, 0)).1, false), (md_dl Bf ty most (s.1, 0)).2)
def md_da (Bf : Int → Int) (ty c : Int) (most : Nat) (s : md_PS) : md_PS × Int := md_di Bf ty most (md_nd Bf ty c s)
def md_lo (Bf : Int → Int) (ty c : Int) (s : md_PS) : Bool := !(md_nd Bf ty c s).2 && decide (md_he Bf ty (md_nd Bf ty c s).1 = 45)
def md_va (Bf : Int → Int) (ty c : Int) (s : md_PS) : md_PS × Int :=
  ((md_di Bf ty 5 ((md_nd Bf ty c s).1 + jB (md_lo Bf ty c s), (md_nd Bf ty c s).2)).1, if md_lo Bf ty c s = true then -(md_di Bf ty 5 ((md_nd Bf ty c s).1 + jB (md_lo Bf ty c s), (md_nd Bf ty c s).2)).2 else (md_di Bf ty 5 ((md_nd Bf ty c s).1 + jB (md_lo Bf ty c s), (md_nd Bf ty c s).2)).2)
/-- the place lies in the text or at its end -/
def md_sok (ty : Int) (sp : Int) : Prop := 0 ≤ sp ∧ sp ≤ ty
theorem md_he_bd {Bf : Int → Int} {ty sp : Int} (hB : ∀ j, 0 ≤ j ∧ j < 60 → 0 ≤ Bf j ∧ Bf j < 65536) (hty : 0 ≤ ty ∧ ty ≤ 60) (hs : 0 ≤ sp) : -1 ≤ md_he Bf ty sp ∧ md_he Bf ty sp < 65536 ∧ (0 ≤ md_he Bf ty sp → sp < ty) := by
  unfold md_he
  split
  · have := hB sp ⟨hs, by omega⟩; exact ⟨by omega, by omega, fun _ => by assumption⟩
  · exact ⟨by omega, by omega, fun h => absurd h (by decide)⟩
theorem md_nd_ok {Bf : Int → Int} {ty c : Int} (hB : ∀ j, 0 ≤ j ∧ j < 60 → 0 ≤ Bf j ∧ Bf j < 65536) (hty : 0 ≤ ty ∧ ty ≤ 60) (hc : 0 ≤ c) {s : md_PS} (hs : md_sok ty s.1) : md_sok ty (md_nd Bf ty c s).1 := by
  have h := md_he_bd hB hty hs.1
  unfold md_nd md_sok at *
  dsimp only
  split
  · exact hs
  · rename_i h2
    have : md_he Bf ty s.1 = c := by
      simp at h2; exact h2.2
    omega
theorem md_dl_ok {Bf : Int → Int} {ty : Int} (hB : ∀ j, 0 ≤ j ∧ j < 60 → 0 ≤ Bf j ∧ Bf j < 65536) (hty : 0 ≤ ty ∧ ty ≤ 60) : ∀ (f : Nat) (x : Int × Int), md_sok ty x.1 → md_sok ty (md_dl Bf ty f x).1
  | 0, _, h => h
  | f + 1, x, h => by
    unfold md_dl
    split
    · rename_i h2
      have h3 := md_inT h2
      have h4 := md_he_bd hB hty h.1
      unfold md_sok at h
      exact md_dl_ok hB hty f _ (by show 0 ≤ x.1 + 1 ∧ x.1 + 1 ≤ ty; omega)
    · exact h
theorem md_di_ok {Bf : Int → Int} {ty : Int} (hB : ∀ j, 0 ≤ j ∧ j < 60 → 0 ≤ Bf j ∧ Bf j < 65536) (hty : 0 ≤ ty ∧ ty ≤ 60) {most : Nat} {s : md_PS} (hs : md_sok ty s.1) : md_sok ty (md_di Bf ty most s).1.1 := by
  unfold md_di
  split
  · exact hs
  · exact md_dl_ok hB hty most (s.1, 0) hs
theorem md_lo_ok {Bf : Int → Int} {ty c : Int} (hB : ∀ j, 0 ≤ j ∧ j < 60 → 0 ≤ Bf j ∧ Bf j < 65536) (hty : 0 ≤ ty ∧ ty ≤ 60) (hc : 0 ≤ c) {s : md_PS} (hs : md_sok ty s.1) : md_sok ty ((md_nd Bf ty c s).1 + jB (md_lo Bf ty c s)) := by
  have h1 := md_nd_ok hB hty hc hs
  have h2 := md_he_bd (Bf := Bf) hB hty h1.1
  unfold md_sok at *
  cases h3 : md_lo Bf ty c s
  · rw [jB_f]; omega
  · rw [jB_t]
    unfold md_lo at h3
    simp at h3
    omega
theorem c_X13_here {G : jk_G} {n : Nat} {t : jk_T} {σ : jk_I} {ρ : jk_P} {m : Nat} {O Bf P : Int → Int} {ty sp : Int} {w : Bool} (hm : md_at t ρ m) (hb : σ (m + 10) = Bf) (hB : ∀ j, 0 ≤ j ∧ j < 60 → 0 ≤ Bf j ∧ Bf j < 65536) (hty : O 7 = ty) (hty2 : 0 ≤ ty ∧ ty ≤ 60) (hs : md_sok ty sp) : jk_K G yX13_here mX13_here 0 0 [.ref m] n t (md_pS σ m O sp w P) ρ (jk_q (some (jI (md_he Bf ty sp))) n t (md_pS σ m O sp w P) ρ) jk_no := by
  refine jk_entryB (ls := [some (.ref m)]) jm_X13_here.1 rfl rfl rfl ?_
  obtain ⟨hs1, hs2⟩ := id hs
  have hhe := md_he_bd hB hty2 hs1
  refine jk_aload_n (q := 1) dX13_here_0 rfl rfl ?_
  refine jk_getIR (q := 4) (k := 13) 20 20 rfl (by first | exact hm.1 | exact hm.2.1 _ _ rfl | assumption) (by first | exact jk_row_same _ _ _ | exact (md_pS_m _ _ _ _ _ _) | exact (md_pS_p _ _ _ _ _ _) | exact ((md_pS_ne _ _ _ _ _ _ (by omega) (by omega)).trans hb) | (rewrite [jk_row_ne _ _ (by omega)]; first | exact jk_row_same _ _ _ | exact (md_pS_m _ _ _ _ _ _) | exact (md_pS_p _ _ _ _ _ _) | exact ((md_pS_ne _ _ _ _ _ _ (by omega) (by omega)).trans hb) | (rewrite [jk_row_ne _ _ (by omega)]; first | exact jk_row_same _ _ _ | exact (md_pS_m _ _ _ _ _ _) | exact (md_pS_p _ _ _ _ _ _) | exact ((md_pS_ne _ _ _ _ _ _ (by omega) (by omega)).trans hb) | (rewrite [jk_row_ne _ _ (by omega)]; first | exact jk_row_same _ _ _ | exact (md_pS_m _ _ _ _ _ _) | exact (md_pS_p _ _ _ _ _ _) | exact ((md_pS_ne _ _ _ _ _ _ (by omega) (by omega)).trans hb) | (rewrite [jk_row_ne _ _ (by omega)]; first | exact (md_pS_m _ _ _ _ _ _) | exact (md_pS_p _ _ _ _ _ _) | exact ((md_pS_ne _ _ _ _ _ _ (by omega) (by omega)).trans hb) | rfl))))) rfl rfl jw_1868 dX13_here_1 rfl ?_
  rw [md_f20]
  refine jk_aload_n (q := 5) dX13_here_4 rfl rfl ?_
  refine jk_getIR (q := 8) (k := 13) 7 7 rfl (by first | exact hm.1 | exact hm.2.1 _ _ rfl | assumption) (by first | exact jk_row_same _ _ _ | exact (md_pS_m _ _ _ _ _ _) | exact (md_pS_p _ _ _ _ _ _) | exact ((md_pS_ne _ _ _ _ _ _ (by omega) (by omega)).trans hb) | (rewrite [jk_row_ne _ _ (by omega)]; first | exact jk_row_same _ _ _ | exact (md_pS_m _ _ _ _ _ _) | exact (md_pS_p _ _ _ _ _ _) | exact ((md_pS_ne _ _ _ _ _ _ (by omega) (by omega)).trans hb) | (rewrite [jk_row_ne _ _ (by omega)]; first | exact jk_row_same _ _ _ | exact (md_pS_m _ _ _ _ _ _) | exact (md_pS_p _ _ _ _ _ _) | exact ((md_pS_ne _ _ _ _ _ _ (by omega) (by omega)).trans hb) | (rewrite [jk_row_ne _ _ (by omega)]; first | exact jk_row_same _ _ _ | exact (md_pS_m _ _ _ _ _ _) | exact (md_pS_p _ _ _ _ _ _) | exact ((md_pS_ne _ _ _ _ _ _ (by omega) (by omega)).trans hb) | (rewrite [jk_row_ne _ _ (by omega)]; first | exact (md_pS_m _ _ _ _ _ _) | exact (md_pS_p _ _ _ _ _ _) | exact ((md_pS_ne _ _ _ _ _ _ (by omega) (by omega)).trans hb) | rfl))))) rfl rfl jw_1855 dX13_here_5 rfl ?_
  rw [md_f7, hty]
  refine jk_icmp_ge (q := 23) (q2 := 11) dX13_here_8 rfl rfl (by first | decide | omega | exact jB_01 _) (by first | decide | omega | exact jB_01 _) (fun h1 => ?_) (fun h1 => ?_)
  · refine jk_iconst (q := 24) dX13_here_23 rfl ?_
    exact jk_iret rfl dX13_here_24 (by refine jk_qI ?_; unfold md_he; first | rw [if_pos (by omega)] | rw [if_neg (by omega)])
  · refine jk_aload_n (q := 12) dX13_here_11 rfl rfl ?_
    refine jk_getA (q := 15) (k := 13) 6 6 rfl (by first | exact hm.1 | exact hm.2.1 _ _ rfl | assumption) (by first | exact hm.2.2 _ _ rfl | assumption) rfl rfl jw_1854 dX13_here_12 rfl ?_
    refine jk_aload_n (q := 16) dX13_here_15 rfl rfl ?_
    refine jk_getIR (q := 19) (k := 13) 20 20 rfl (by first | exact hm.1 | exact hm.2.1 _ _ rfl | assumption) (by first | exact jk_row_same _ _ _ | exact (md_pS_m _ _ _ _ _ _) | exact (md_pS_p _ _ _ _ _ _) | exact ((md_pS_ne _ _ _ _ _ _ (by omega) (by omega)).trans hb) | (rewrite [jk_row_ne _ _ (by omega)]; first | exact jk_row_same _ _ _ | exact (md_pS_m _ _ _ _ _ _) | exact (md_pS_p _ _ _ _ _ _) | exact ((md_pS_ne _ _ _ _ _ _ (by omega) (by omega)).trans hb) | (rewrite [jk_row_ne _ _ (by omega)]; first | exact jk_row_same _ _ _ | exact (md_pS_m _ _ _ _ _ _) | exact (md_pS_p _ _ _ _ _ _) | exact ((md_pS_ne _ _ _ _ _ _ (by omega) (by omega)).trans hb) | (rewrite [jk_row_ne _ _ (by omega)]; first | exact jk_row_same _ _ _ | exact (md_pS_m _ _ _ _ _ _) | exact (md_pS_p _ _ _ _ _ _) | exact ((md_pS_ne _ _ _ _ _ _ (by omega) (by omega)).trans hb) | (rewrite [jk_row_ne _ _ (by omega)]; first | exact (md_pS_m _ _ _ _ _ _) | exact (md_pS_p _ _ _ _ _ _) | exact ((md_pS_ne _ _ _ _ _ _ (by omega) (by omega)).trans hb) | rfl))))) rfl rfl jw_1868 dX13_here_16 rfl ?_
    rw [md_f20]
    have hbs := hB sp ⟨by omega, by omega⟩
    refine jk_caldR (q := 20) (by first | exact hm.1 | exact hm.2.1 _ _ rfl | assumption) (by first | exact jk_row_same _ _ _ | exact (md_pS_m _ _ _ _ _ _) | exact (md_pS_p _ _ _ _ _ _) | exact ((md_pS_ne _ _ _ _ _ _ (by omega) (by omega)).trans hb) | (rewrite [jk_row_ne _ _ (by omega)]; first | exact jk_row_same _ _ _ | exact (md_pS_m _ _ _ _ _ _) | exact (md_pS_p _ _ _ _ _ _) | exact ((md_pS_ne _ _ _ _ _ _ (by omega) (by omega)).trans hb) | (rewrite [jk_row_ne _ _ (by omega)]; first | exact jk_row_same _ _ _ | exact (md_pS_m _ _ _ _ _ _) | exact (md_pS_p _ _ _ _ _ _) | exact ((md_pS_ne _ _ _ _ _ _ (by omega) (by omega)).trans hb) | (rewrite [jk_row_ne _ _ (by omega)]; first | exact jk_row_same _ _ _ | exact (md_pS_m _ _ _ _ _ _) | exact (md_pS_p _ _ _ _ _ _) | exact ((md_pS_ne _ _ _ _ _ _ (by omega) (by omega)).trans hb) | (rewrite [jk_row_ne _ _ (by omega)]; first | exact (md_pS_m _ _ _ _ _ _) | exact (md_pS_p _ _ _ _ _ _) | exact ((md_pS_ne _ _ _ _ _ _ (by omega) (by omega)).trans hb) | rfl))))) (by first | decide | omega | exact jB_01 _) dX13_here_19 rfl ?_
    refine jk_goto (q := 24) dX13_here_20 rfl ?_
    exact jk_iret rfl dX13_here_24 (by refine jk_qI ?_; unfold md_he; first | rw [if_pos (by omega)] | rw [if_neg (by omega)])
theorem c_X13_needs {G : jk_G} {n : Nat} {t : jk_T} {σ : jk_I} {ρ : jk_P} {m : Nat} {O Bf P : Int → Int} {ty sp : Int} {w : Bool} {c : Int} (hm : md_at t ρ m) (hb : σ (m + 10) = Bf) (hB : ∀ j, 0 ≤ j ∧ j < 60 → 0 ≤ Bf j ∧ Bf j < 65536) (hty : O 7 = ty) (hty2 : 0 ≤ ty ∧ ty ≤ 60) (hs : md_sok ty sp) (hc : 0 ≤ c ∧ c < 65536) : jk_K G yX13_needs mX13_needs 0 0 [.ref m, jI c] n t (md_pS σ m O sp w P) ρ (jk_q none n t (md_pS σ m O (md_nd Bf ty c (sp, w)).1 (md_nd Bf ty c (sp, w)).2 P) ρ) jk_no := by
  refine jk_entryB (ls := [some (.ref m), some (jI c)]) jm_X13_needs.1 rfl rfl rfl ?_
  obtain ⟨hs1, hs2⟩ := id hs
  have hhe := md_he_bd hB hty2 hs1
  refine jk_aload_n (q := 1) dX13_needs_0 rfl rfl ?_
  refine jk_aload_n (q := 2) dX13_needs_1 rfl rfl ?_
  refine jk_getIR (q := 5) (k := 13) 21 21 rfl (by first | exact hm.1 | exact hm.2.1 _ _ rfl | assumption) (by first | exact jk_row_same _ _ _ | exact (md_pS_m _ _ _ _ _ _) | exact (md_pS_p _ _ _ _ _ _) | exact ((md_pS_ne _ _ _ _ _ _ (by omega) (by omega)).trans hb) | (rewrite [jk_row_ne _ _ (by omega)]; first | exact jk_row_same _ _ _ | exact (md_pS_m _ _ _ _ _ _) | exact (md_pS_p _ _ _ _ _ _) | exact ((md_pS_ne _ _ _ _ _ _ (by omega) (by omega)).trans hb) | (rewrite [jk_row_ne _ _ (by omega)]; first | exact jk_row_same _ _ _ | exact (md_pS_m _ _ _ _ _ _) | exact (md_pS_p _ _ _ _ _ _) | exact ((md_pS_ne _ _ _ _ _ _ (by omega) (by omega)).trans hb) | (rewrite [jk_row_ne _ _ (by omega)]; first | exact jk_row_same _ _ _ | exact (md_pS_m _ _ _ _ _ _) | exact (md_pS_p _ _ _ _ _ _) | exact ((md_pS_ne _ _ _ _ _ _ (by omega) (by omega)).trans hb) | (rewrite [jk_row_ne _ _ (by omega)]; first | exact (md_pS_m _ _ _ _ _ _) | exact (md_pS_p _ _ _ _ _ _) | exact ((md_pS_ne _ _ _ _ _ _ (by omega) (by omega)).trans hb) | rfl))))) rfl rfl jw_1869 dX13_needs_2 rfl ?_
  rw [jk_set_at]
  refine jk_ifB_ne (q := 16) (q2 := 8) dX13_needs_5 rfl rfl (fun h1 => ?_) (fun h1 => ?_)
  · refine jk_iconst (q := 17) dX13_needs_16 rfl ?_
    refine jk_goto (q := 21) dX13_needs_17 rfl ?_
    refine jk_putZR (q := 24) (k := 13) 21 21 rfl (by first | exact hm.1 | exact hm.2.1 _ _ rfl | assumption) (by first | exact jk_row_same _ _ _ | exact (md_pS_m _ _ _ _ _ _) | exact (md_pS_p _ _ _ _ _ _) | exact ((md_pS_ne _ _ _ _ _ _ (by omega) (by omega)).trans hb) | (rewrite [jk_row_ne _ _ (by omega)]; first | exact jk_row_same _ _ _ | exact (md_pS_m _ _ _ _ _ _) | exact (md_pS_p _ _ _ _ _ _) | exact ((md_pS_ne _ _ _ _ _ _ (by omega) (by omega)).trans hb) | (rewrite [jk_row_ne _ _ (by omega)]; first | exact jk_row_same _ _ _ | exact (md_pS_m _ _ _ _ _ _) | exact (md_pS_p _ _ _ _ _ _) | exact ((md_pS_ne _ _ _ _ _ _ (by omega) (by omega)).trans hb) | (rewrite [jk_row_ne _ _ (by omega)]; first | exact jk_row_same _ _ _ | exact (md_pS_m _ _ _ _ _ _) | exact (md_pS_p _ _ _ _ _ _) | exact ((md_pS_ne _ _ _ _ _ _ (by omega) (by omega)).trans hb) | (rewrite [jk_row_ne _ _ (by omega)]; first | exact (md_pS_m _ _ _ _ _ _) | exact (md_pS_p _ _ _ _ _ _) | exact ((md_pS_ne _ _ _ _ _ _ (by omega) (by omega)).trans hb) | rfl))))) rfl rfl rfl (by first | decide | omega | exact jB_01 _) jw_1869 dX13_needs_21 rfl ?_
    rw [← jB_t, md_pS_w]
    refine jk_aload_n (q := 25) dX13_needs_24 rfl rfl ?_
    refine jk_dup (q := 26) dX13_needs_25 rfl rfl ?_
    refine jk_getIR (q := 29) (k := 13) 20 20 rfl (by first | exact hm.1 | exact hm.2.1 _ _ rfl | assumption) (by first | exact jk_row_same _ _ _ | exact (md_pS_m _ _ _ _ _ _) | exact (md_pS_p _ _ _ _ _ _) | exact ((md_pS_ne _ _ _ _ _ _ (by omega) (by omega)).trans hb) | (rewrite [jk_row_ne _ _ (by omega)]; first | exact jk_row_same _ _ _ | exact (md_pS_m _ _ _ _ _ _) | exact (md_pS_p _ _ _ _ _ _) | exact ((md_pS_ne _ _ _ _ _ _ (by omega) (by omega)).trans hb) | (rewrite [jk_row_ne _ _ (by omega)]; first | exact jk_row_same _ _ _ | exact (md_pS_m _ _ _ _ _ _) | exact (md_pS_p _ _ _ _ _ _) | exact ((md_pS_ne _ _ _ _ _ _ (by omega) (by omega)).trans hb) | (rewrite [jk_row_ne _ _ (by omega)]; first | exact jk_row_same _ _ _ | exact (md_pS_m _ _ _ _ _ _) | exact (md_pS_p _ _ _ _ _ _) | exact ((md_pS_ne _ _ _ _ _ _ (by omega) (by omega)).trans hb) | (rewrite [jk_row_ne _ _ (by omega)]; first | exact (md_pS_m _ _ _ _ _ _) | exact (md_pS_p _ _ _ _ _ _) | exact ((md_pS_ne _ _ _ _ _ _ (by omega) (by omega)).trans hb) | rfl))))) rfl rfl jw_1868 dX13_needs_26 rfl ?_
    rw [md_f20]
    refine jk_aload_n (q := 30) dX13_needs_29 rfl rfl ?_
    refine jk_getIR (q := 33) (k := 13) 21 21 rfl (by first | exact hm.1 | exact hm.2.1 _ _ rfl | assumption) (by first | exact jk_row_same _ _ _ | exact (md_pS_m _ _ _ _ _ _) | exact (md_pS_p _ _ _ _ _ _) | exact ((md_pS_ne _ _ _ _ _ _ (by omega) (by omega)).trans hb) | (rewrite [jk_row_ne _ _ (by omega)]; first | exact jk_row_same _ _ _ | exact (md_pS_m _ _ _ _ _ _) | exact (md_pS_p _ _ _ _ _ _) | exact ((md_pS_ne _ _ _ _ _ _ (by omega) (by omega)).trans hb) | (rewrite [jk_row_ne _ _ (by omega)]; first | exact jk_row_same _ _ _ | exact (md_pS_m _ _ _ _ _ _) | exact (md_pS_p _ _ _ _ _ _) | exact ((md_pS_ne _ _ _ _ _ _ (by omega) (by omega)).trans hb) | (rewrite [jk_row_ne _ _ (by omega)]; first | exact jk_row_same _ _ _ | exact (md_pS_m _ _ _ _ _ _) | exact (md_pS_p _ _ _ _ _ _) | exact ((md_pS_ne _ _ _ _ _ _ (by omega) (by omega)).trans hb) | (rewrite [jk_row_ne _ _ (by omega)]; first | exact (md_pS_m _ _ _ _ _ _) | exact (md_pS_p _ _ _ _ _ _) | exact ((md_pS_ne _ _ _ _ _ _ (by omega) (by omega)).trans hb) | rfl))))) rfl rfl jw_1869 dX13_needs_30 rfl ?_
    rw [jk_set_at]
    refine jk_ifB_eq (q := 40) (q2 := 36) dX13_needs_33 rfl rfl (fun h2 => ?_) (fun h2 => ?_)
    · refine jk_iconst (q := 41) dX13_needs_40 rfl ?_
      refine jk_iadd (q := 42) dX13_needs_41 rfl ?_
      refine jk_putIR (q := 45) (k := 13) 20 20 rfl (by first | exact hm.1 | exact hm.2.1 _ _ rfl | assumption) (by first | exact jk_row_same _ _ _ | exact (md_pS_m _ _ _ _ _ _) | exact (md_pS_p _ _ _ _ _ _) | exact ((md_pS_ne _ _ _ _ _ _ (by omega) (by omega)).trans hb) | (rewrite [jk_row_ne _ _ (by omega)]; first | exact jk_row_same _ _ _ | exact (md_pS_m _ _ _ _ _ _) | exact (md_pS_p _ _ _ _ _ _) | exact ((md_pS_ne _ _ _ _ _ _ (by omega) (by omega)).trans hb) | (rewrite [jk_row_ne _ _ (by omega)]; first | exact jk_row_same _ _ _ | exact (md_pS_m _ _ _ _ _ _) | exact (md_pS_p _ _ _ _ _ _) | exact ((md_pS_ne _ _ _ _ _ _ (by omega) (by omega)).trans hb) | (rewrite [jk_row_ne _ _ (by omega)]; first | exact jk_row_same _ _ _ | exact (md_pS_m _ _ _ _ _ _) | exact (md_pS_p _ _ _ _ _ _) | exact ((md_pS_ne _ _ _ _ _ _ (by omega) (by omega)).trans hb) | (rewrite [jk_row_ne _ _ (by omega)]; first | exact (md_pS_m _ _ _ _ _ _) | exact (md_pS_p _ _ _ _ _ _) | exact ((md_pS_ne _ _ _ _ _ _ (by omega) (by omega)).trans hb) | rfl))))) rfl rfl rfl jw_1868 dX13_needs_42 rfl ?_
      rw [md_pS_sp]
      exact jk_ret rfl dX13_needs_45 (by refine ⟨rfl, rfl, rfl, ?_, rfl⟩; clear hm hb hB hs hs1 hs2 hhe hty hty2 hc; unfold md_nd; cases w <;> by_cases hq : md_he Bf ty sp = c <;> simp_all)
    · refine jk_iconst (q := 37) dX13_needs_36 rfl ?_
      refine jk_goto (q := 41) dX13_needs_37 rfl ?_
      refine jk_iadd (q := 42) dX13_needs_41 rfl ?_
      refine jk_putIR (q := 45) (k := 13) 20 20 rfl (by first | exact hm.1 | exact hm.2.1 _ _ rfl | assumption) (by first | exact jk_row_same _ _ _ | exact (md_pS_m _ _ _ _ _ _) | exact (md_pS_p _ _ _ _ _ _) | exact ((md_pS_ne _ _ _ _ _ _ (by omega) (by omega)).trans hb) | (rewrite [jk_row_ne _ _ (by omega)]; first | exact jk_row_same _ _ _ | exact (md_pS_m _ _ _ _ _ _) | exact (md_pS_p _ _ _ _ _ _) | exact ((md_pS_ne _ _ _ _ _ _ (by omega) (by omega)).trans hb) | (rewrite [jk_row_ne _ _ (by omega)]; first | exact jk_row_same _ _ _ | exact (md_pS_m _ _ _ _ _ _) | exact (md_pS_p _ _ _ _ _ _) | exact ((md_pS_ne _ _ _ _ _ _ (by omega) (by omega)).trans hb) | (rewrite [jk_row_ne _ _ (by omega)]; first | exact jk_row_same _ _ _ | exact (md_pS_m _ _ _ _ _ _) | exact (md_pS_p _ _ _ _ _ _) | exact ((md_pS_ne _ _ _ _ _ _ (by omega) (by omega)).trans hb) | (rewrite [jk_row_ne _ _ (by omega)]; first | exact (md_pS_m _ _ _ _ _ _) | exact (md_pS_p _ _ _ _ _ _) | exact ((md_pS_ne _ _ _ _ _ _ (by omega) (by omega)).trans hb) | rfl))))) rfl rfl rfl jw_1868 dX13_needs_42 rfl ?_
      rw [md_pS_sp]
      exact jk_ret rfl dX13_needs_45 (by refine ⟨rfl, rfl, rfl, ?_, rfl⟩; clear hm hb hB hs hs1 hs2 hhe hty hty2 hc; unfold md_nd; cases w <;> by_cases hq : md_he Bf ty sp = c <;> simp_all)
  · refine jk_aload_n (q := 9) dX13_needs_8 rfl rfl ?_
    refine jk_cV0p (q := 12) (c_X13_here hm hb hB hty hty2 hs) jm_X13_here jw_2384 rfl (by first | exact hm.1 | exact hm.2.1 _ _ rfl | assumption) rfl rfl rfl dX13_needs_9 rfl ?_
    refine jk_iload_n (q := 13) dX13_needs_12 rfl rfl ?_
    refine jk_icmp_eq (q := 20) (q2 := 16) dX13_needs_13 rfl rfl (by first | decide | omega | exact jB_01 _) (by first | decide | omega | exact jB_01 _) (fun h3 => ?_) (fun h3 => ?_)
    · refine jk_iconst (q := 21) dX13_needs_20 rfl ?_
      refine jk_putZR (q := 24) (k := 13) 21 21 rfl (by first | exact hm.1 | exact hm.2.1 _ _ rfl | assumption) (by first | exact jk_row_same _ _ _ | exact (md_pS_m _ _ _ _ _ _) | exact (md_pS_p _ _ _ _ _ _) | exact ((md_pS_ne _ _ _ _ _ _ (by omega) (by omega)).trans hb) | (rewrite [jk_row_ne _ _ (by omega)]; first | exact jk_row_same _ _ _ | exact (md_pS_m _ _ _ _ _ _) | exact (md_pS_p _ _ _ _ _ _) | exact ((md_pS_ne _ _ _ _ _ _ (by omega) (by omega)).trans hb) | (rewrite [jk_row_ne _ _ (by omega)]; first | exact jk_row_same _ _ _ | exact (md_pS_m _ _ _ _ _ _) | exact (md_pS_p _ _ _ _ _ _) | exact ((md_pS_ne _ _ _ _ _ _ (by omega) (by omega)).trans hb) | (rewrite [jk_row_ne _ _ (by omega)]; first | exact jk_row_same _ _ _ | exact (md_pS_m _ _ _ _ _ _) | exact (md_pS_p _ _ _ _ _ _) | exact ((md_pS_ne _ _ _ _ _ _ (by omega) (by omega)).trans hb) | (rewrite [jk_row_ne _ _ (by omega)]; first | exact (md_pS_m _ _ _ _ _ _) | exact (md_pS_p _ _ _ _ _ _) | exact ((md_pS_ne _ _ _ _ _ _ (by omega) (by omega)).trans hb) | rfl))))) rfl rfl rfl (by first | decide | omega | exact jB_01 _) jw_1869 dX13_needs_21 rfl ?_
      rw [← jB_f, md_pS_w]
      refine jk_aload_n (q := 25) dX13_needs_24 rfl rfl ?_
      refine jk_dup (q := 26) dX13_needs_25 rfl rfl ?_
      refine jk_getIR (q := 29) (k := 13) 20 20 rfl (by first | exact hm.1 | exact hm.2.1 _ _ rfl | assumption) (by first | exact jk_row_same _ _ _ | exact (md_pS_m _ _ _ _ _ _) | exact (md_pS_p _ _ _ _ _ _) | exact ((md_pS_ne _ _ _ _ _ _ (by omega) (by omega)).trans hb) | (rewrite [jk_row_ne _ _ (by omega)]; first | exact jk_row_same _ _ _ | exact (md_pS_m _ _ _ _ _ _) | exact (md_pS_p _ _ _ _ _ _) | exact ((md_pS_ne _ _ _ _ _ _ (by omega) (by omega)).trans hb) | (rewrite [jk_row_ne _ _ (by omega)]; first | exact jk_row_same _ _ _ | exact (md_pS_m _ _ _ _ _ _) | exact (md_pS_p _ _ _ _ _ _) | exact ((md_pS_ne _ _ _ _ _ _ (by omega) (by omega)).trans hb) | (rewrite [jk_row_ne _ _ (by omega)]; first | exact jk_row_same _ _ _ | exact (md_pS_m _ _ _ _ _ _) | exact (md_pS_p _ _ _ _ _ _) | exact ((md_pS_ne _ _ _ _ _ _ (by omega) (by omega)).trans hb) | (rewrite [jk_row_ne _ _ (by omega)]; first | exact (md_pS_m _ _ _ _ _ _) | exact (md_pS_p _ _ _ _ _ _) | exact ((md_pS_ne _ _ _ _ _ _ (by omega) (by omega)).trans hb) | rfl))))) rfl rfl jw_1868 dX13_needs_26 rfl ?_
      rw [md_f20]
      refine jk_aload_n (q := 30) dX13_needs_29 rfl rfl ?_
      refine jk_getIR (q := 33) (k := 13) 21 21 rfl (by first | exact hm.1 | exact hm.2.1 _ _ rfl | assumption) (by first | exact jk_row_same _ _ _ | exact (md_pS_m _ _ _ _ _ _) | exact (md_pS_p _ _ _ _ _ _) | exact ((md_pS_ne _ _ _ _ _ _ (by omega) (by omega)).trans hb) | (rewrite [jk_row_ne _ _ (by omega)]; first | exact jk_row_same _ _ _ | exact (md_pS_m _ _ _ _ _ _) | exact (md_pS_p _ _ _ _ _ _) | exact ((md_pS_ne _ _ _ _ _ _ (by omega) (by omega)).trans hb) | (rewrite [jk_row_ne _ _ (by omega)]; first | exact jk_row_same _ _ _ | exact (md_pS_m _ _ _ _ _ _) | exact (md_pS_p _ _ _ _ _ _) | exact ((md_pS_ne _ _ _ _ _ _ (by omega) (by omega)).trans hb) | (rewrite [jk_row_ne _ _ (by omega)]; first | exact jk_row_same _ _ _ | exact (md_pS_m _ _ _ _ _ _) | exact (md_pS_p _ _ _ _ _ _) | exact ((md_pS_ne _ _ _ _ _ _ (by omega) (by omega)).trans hb) | (rewrite [jk_row_ne _ _ (by omega)]; first | exact (md_pS_m _ _ _ _ _ _) | exact (md_pS_p _ _ _ _ _ _) | exact ((md_pS_ne _ _ _ _ _ _ (by omega) (by omega)).trans hb) | rfl))))) rfl rfl jw_1869 dX13_needs_30 rfl ?_
      rw [jk_set_at]
      refine jk_ifB_eq (q := 40) (q2 := 36) dX13_needs_33 rfl rfl (fun h4 => ?_) (fun h4 => ?_)
      · refine jk_iconst (q := 41) dX13_needs_40 rfl ?_
        refine jk_iadd (q := 42) dX13_needs_41 rfl ?_
        refine jk_putIR (q := 45) (k := 13) 20 20 rfl (by first | exact hm.1 | exact hm.2.1 _ _ rfl | assumption) (by first | exact jk_row_same _ _ _ | exact (md_pS_m _ _ _ _ _ _) | exact (md_pS_p _ _ _ _ _ _) | exact ((md_pS_ne _ _ _ _ _ _ (by omega) (by omega)).trans hb) | (rewrite [jk_row_ne _ _ (by omega)]; first | exact jk_row_same _ _ _ | exact (md_pS_m _ _ _ _ _ _) | exact (md_pS_p _ _ _ _ _ _) | exact ((md_pS_ne _ _ _ _ _ _ (by omega) (by omega)).trans hb) | (rewrite [jk_row_ne _ _ (by omega)]; first | exact jk_row_same _ _ _ | exact (md_pS_m _ _ _ _ _ _) | exact (md_pS_p _ _ _ _ _ _) | exact ((md_pS_ne _ _ _ _ _ _ (by omega) (by omega)).trans hb) | (rewrite [jk_row_ne _ _ (by omega)]; first | exact jk_row_same _ _ _ | exact (md_pS_m _ _ _ _ _ _) | exact (md_pS_p _ _ _ _ _ _) | exact ((md_pS_ne _ _ _ _ _ _ (by omega) (by omega)).trans hb) | (rewrite [jk_row_ne _ _ (by omega)]; first | exact (md_pS_m _ _ _ _ _ _) | exact (md_pS_p _ _ _ _ _ _) | exact ((md_pS_ne _ _ _ _ _ _ (by omega) (by omega)).trans hb) | rfl))))) rfl rfl rfl jw_1868 dX13_needs_42 rfl ?_
        rw [md_pS_sp]
        exact jk_ret rfl dX13_needs_45 (by refine ⟨rfl, rfl, rfl, ?_, rfl⟩; clear hm hb hB hs hs1 hs2 hhe hty hty2 hc; unfold md_nd; cases w <;> by_cases hq : md_he Bf ty sp = c <;> simp_all)
      · refine jk_iconst (q := 37) dX13_needs_36 rfl ?_
        refine jk_goto (q := 41) dX13_needs_37 rfl ?_
        refine jk_iadd (q := 42) dX13_needs_41 rfl ?_
        refine jk_putIR (q := 45) (k := 13) 20 20 rfl (by first | exact hm.1 | exact hm.2.1 _ _ rfl | assumption) (by first | exact jk_row_same _ _ _ | exact (md_pS_m _ _ _ _ _ _) | exact (md_pS_p _ _ _ _ _ _) | exact ((md_pS_ne _ _ _ _ _ _ (by omega) (by omega)).trans hb) | (rewrite [jk_row_ne _ _ (by omega)]; first | exact jk_row_same _ _ _ | exact (md_pS_m _ _ _ _ _ _) | exact (md_pS_p _ _ _ _ _ _) | exact ((md_pS_ne _ _ _ _ _ _ (by omega) (by omega)).trans hb) | (rewrite [jk_row_ne _ _ (by omega)]; first | exact jk_row_same _ _ _ | exact (md_pS_m _ _ _ _ _ _) | exact (md_pS_p _ _ _ _ _ _) | exact ((md_pS_ne _ _ _ _ _ _ (by omega) (by omega)).trans hb) | (rewrite [jk_row_ne _ _ (by omega)]; first | exact jk_row_same _ _ _ | exact (md_pS_m _ _ _ _ _ _) | exact (md_pS_p _ _ _ _ _ _) | exact ((md_pS_ne _ _ _ _ _ _ (by omega) (by omega)).trans hb) | (rewrite [jk_row_ne _ _ (by omega)]; first | exact (md_pS_m _ _ _ _ _ _) | exact (md_pS_p _ _ _ _ _ _) | exact ((md_pS_ne _ _ _ _ _ _ (by omega) (by omega)).trans hb) | rfl))))) rfl rfl rfl jw_1868 dX13_needs_42 rfl ?_
        rw [md_pS_sp]
        exact jk_ret rfl dX13_needs_45 (by refine ⟨rfl, rfl, rfl, ?_, rfl⟩; clear hm hb hB hs hs1 hs2 hhe hty hty2 hc; unfold md_nd; cases w <;> by_cases hq : md_he Bf ty sp = c <;> simp_all)
    · refine jk_iconst (q := 17) dX13_needs_16 rfl ?_
      refine jk_goto (q := 21) dX13_needs_17 rfl ?_
      refine jk_putZR (q := 24) (k := 13) 21 21 rfl (by first | exact hm.1 | exact hm.2.1 _ _ rfl | assumption) (by first | exact jk_row_same _ _ _ | exact (md_pS_m _ _ _ _ _ _) | exact (md_pS_p _ _ _ _ _ _) | exact ((md_pS_ne _ _ _ _ _ _ (by omega) (by omega)).trans hb) | (rewrite [jk_row_ne _ _ (by omega)]; first | exact jk_row_same _ _ _ | exact (md_pS_m _ _ _ _ _ _) | exact (md_pS_p _ _ _ _ _ _) | exact ((md_pS_ne _ _ _ _ _ _ (by omega) (by omega)).trans hb) | (rewrite [jk_row_ne _ _ (by omega)]; first | exact jk_row_same _ _ _ | exact (md_pS_m _ _ _ _ _ _) | exact (md_pS_p _ _ _ _ _ _) | exact ((md_pS_ne _ _ _ _ _ _ (by omega) (by omega)).trans hb) | (rewrite [jk_row_ne _ _ (by omega)]; first | exact jk_row_same _ _ _ | exact (md_pS_m _ _ _ _ _ _) | exact (md_pS_p _ _ _ _ _ _) | exact ((md_pS_ne _ _ _ _ _ _ (by omega) (by omega)).trans hb) | (rewrite [jk_row_ne _ _ (by omega)]; first | exact (md_pS_m _ _ _ _ _ _) | exact (md_pS_p _ _ _ _ _ _) | exact ((md_pS_ne _ _ _ _ _ _ (by omega) (by omega)).trans hb) | rfl))))) rfl rfl rfl (by first | decide | omega | exact jB_01 _) jw_1869 dX13_needs_21 rfl ?_
      rw [← jB_t, md_pS_w]
      refine jk_aload_n (q := 25) dX13_needs_24 rfl rfl ?_
      refine jk_dup (q := 26) dX13_needs_25 rfl rfl ?_
      refine jk_getIR (q := 29) (k := 13) 20 20 rfl (by first | exact hm.1 | exact hm.2.1 _ _ rfl | assumption) (by first | exact jk_row_same _ _ _ | exact (md_pS_m _ _ _ _ _ _) | exact (md_pS_p _ _ _ _ _ _) | exact ((md_pS_ne _ _ _ _ _ _ (by omega) (by omega)).trans hb) | (rewrite [jk_row_ne _ _ (by omega)]; first | exact jk_row_same _ _ _ | exact (md_pS_m _ _ _ _ _ _) | exact (md_pS_p _ _ _ _ _ _) | exact ((md_pS_ne _ _ _ _ _ _ (by omega) (by omega)).trans hb) | (rewrite [jk_row_ne _ _ (by omega)]; first | exact jk_row_same _ _ _ | exact (md_pS_m _ _ _ _ _ _) | exact (md_pS_p _ _ _ _ _ _) | exact ((md_pS_ne _ _ _ _ _ _ (by omega) (by omega)).trans hb) | (rewrite [jk_row_ne _ _ (by omega)]; first | exact jk_row_same _ _ _ | exact (md_pS_m _ _ _ _ _ _) | exact (md_pS_p _ _ _ _ _ _) | exact ((md_pS_ne _ _ _ _ _ _ (by omega) (by omega)).trans hb) | (rewrite [jk_row_ne _ _ (by omega)]; first | exact (md_pS_m _ _ _ _ _ _) | exact (md_pS_p _ _ _ _ _ _) | exact ((md_pS_ne _ _ _ _ _ _ (by omega) (by omega)).trans hb) | rfl))))) rfl rfl jw_1868 dX13_needs_26 rfl ?_
      rw [md_f20]
      refine jk_aload_n (q := 30) dX13_needs_29 rfl rfl ?_
      refine jk_getIR (q := 33) (k := 13) 21 21 rfl (by first | exact hm.1 | exact hm.2.1 _ _ rfl | assumption) (by first | exact jk_row_same _ _ _ | exact (md_pS_m _ _ _ _ _ _) | exact (md_pS_p _ _ _ _ _ _) | exact ((md_pS_ne _ _ _ _ _ _ (by omega) (by omega)).trans hb) | (rewrite [jk_row_ne _ _ (by omega)]; first | exact jk_row_same _ _ _ | exact (md_pS_m _ _ _ _ _ _) | exact (md_pS_p _ _ _ _ _ _) | exact ((md_pS_ne _ _ _ _ _ _ (by omega) (by omega)).trans hb) | (rewrite [jk_row_ne _ _ (by omega)]; first | exact jk_row_same _ _ _ | exact (md_pS_m _ _ _ _ _ _) | exact (md_pS_p _ _ _ _ _ _) | exact ((md_pS_ne _ _ _ _ _ _ (by omega) (by omega)).trans hb) | (rewrite [jk_row_ne _ _ (by omega)]; first | exact jk_row_same _ _ _ | exact (md_pS_m _ _ _ _ _ _) | exact (md_pS_p _ _ _ _ _ _) | exact ((md_pS_ne _ _ _ _ _ _ (by omega) (by omega)).trans hb) | (rewrite [jk_row_ne _ _ (by omega)]; first | exact (md_pS_m _ _ _ _ _ _) | exact (md_pS_p _ _ _ _ _ _) | exact ((md_pS_ne _ _ _ _ _ _ (by omega) (by omega)).trans hb) | rfl))))) rfl rfl jw_1869 dX13_needs_30 rfl ?_
      rw [jk_set_at]
      refine jk_ifB_eq (q := 40) (q2 := 36) dX13_needs_33 rfl rfl (fun h5 => ?_) (fun h5 => ?_)
      · refine jk_iconst (q := 41) dX13_needs_40 rfl ?_
        refine jk_iadd (q := 42) dX13_needs_41 rfl ?_
        refine jk_putIR (q := 45) (k := 13) 20 20 rfl (by first | exact hm.1 | exact hm.2.1 _ _ rfl | assumption) (by first | exact jk_row_same _ _ _ | exact (md_pS_m _ _ _ _ _ _) | exact (md_pS_p _ _ _ _ _ _) | exact ((md_pS_ne _ _ _ _ _ _ (by omega) (by omega)).trans hb) | (rewrite [jk_row_ne _ _ (by omega)]; first | exact jk_row_same _ _ _ | exact (md_pS_m _ _ _ _ _ _) | exact (md_pS_p _ _ _ _ _ _) | exact ((md_pS_ne _ _ _ _ _ _ (by omega) (by omega)).trans hb) | (rewrite [jk_row_ne _ _ (by omega)]; first | exact jk_row_same _ _ _ | exact (md_pS_m _ _ _ _ _ _) | exact (md_pS_p _ _ _ _ _ _) | exact ((md_pS_ne _ _ _ _ _ _ (by omega) (by omega)).trans hb) | (rewrite [jk_row_ne _ _ (by omega)]; first | exact jk_row_same _ _ _ | exact (md_pS_m _ _ _ _ _ _) | exact (md_pS_p _ _ _ _ _ _) | exact ((md_pS_ne _ _ _ _ _ _ (by omega) (by omega)).trans hb) | (rewrite [jk_row_ne _ _ (by omega)]; first | exact (md_pS_m _ _ _ _ _ _) | exact (md_pS_p _ _ _ _ _ _) | exact ((md_pS_ne _ _ _ _ _ _ (by omega) (by omega)).trans hb) | rfl))))) rfl rfl rfl jw_1868 dX13_needs_42 rfl ?_
        rw [md_pS_sp]
        exact jk_ret rfl dX13_needs_45 (by refine ⟨rfl, rfl, rfl, ?_, rfl⟩; clear hm hb hB hs hs1 hs2 hhe hty hty2 hc; unfold md_nd; cases w <;> by_cases hq : md_he Bf ty sp = c <;> simp_all)
      · refine jk_iconst (q := 37) dX13_needs_36 rfl ?_
        refine jk_goto (q := 41) dX13_needs_37 rfl ?_
        refine jk_iadd (q := 42) dX13_needs_41 rfl ?_
        refine jk_putIR (q := 45) (k := 13) 20 20 rfl (by first | exact hm.1 | exact hm.2.1 _ _ rfl | assumption) (by first | exact jk_row_same _ _ _ | exact (md_pS_m _ _ _ _ _ _) | exact (md_pS_p _ _ _ _ _ _) | exact ((md_pS_ne _ _ _ _ _ _ (by omega) (by omega)).trans hb) | (rewrite [jk_row_ne _ _ (by omega)]; first | exact jk_row_same _ _ _ | exact (md_pS_m _ _ _ _ _ _) | exact (md_pS_p _ _ _ _ _ _) | exact ((md_pS_ne _ _ _ _ _ _ (by omega) (by omega)).trans hb) | (rewrite [jk_row_ne _ _ (by omega)]; first | exact jk_row_same _ _ _ | exact (md_pS_m _ _ _ _ _ _) | exact (md_pS_p _ _ _ _ _ _) | exact ((md_pS_ne _ _ _ _ _ _ (by omega) (by omega)).trans hb) | (rewrite [jk_row_ne _ _ (by omega)]; first | exact jk_row_same _ _ _ | exact (md_pS_m _ _ _ _ _ _) | exact (md_pS_p _ _ _ _ _ _) | exact ((md_pS_ne _ _ _ _ _ _ (by omega) (by omega)).trans hb) | (rewrite [jk_row_ne _ _ (by omega)]; first | exact (md_pS_m _ _ _ _ _ _) | exact (md_pS_p _ _ _ _ _ _) | exact ((md_pS_ne _ _ _ _ _ _ (by omega) (by omega)).trans hb) | rfl))))) rfl rfl rfl jw_1868 dX13_needs_42 rfl ?_
        rw [md_pS_sp]
        exact jk_ret rfl dX13_needs_45 (by refine ⟨rfl, rfl, rfl, ?_, rfl⟩; clear hm hb hB hs hs1 hs2 hhe hty hty2 hc; unfold md_nd; cases w <;> by_cases hq : md_he Bf ty sp = c <;> simp_all)
theorem c_X13_needsThree {G : jk_G} {n : Nat} {t : jk_T} {σ : jk_I} {ρ : jk_P} {m : Nat} {O Bf P : Int → Int} {ty sp : Int} {w : Bool} {a b c : Int} (hm : md_at t ρ m) (hb : σ (m + 10) = Bf) (hB : ∀ j, 0 ≤ j ∧ j < 60 → 0 ≤ Bf j ∧ Bf j < 65536) (hty : O 7 = ty) (hty2 : 0 ≤ ty ∧ ty ≤ 60) (hs : md_sok ty sp) (ha : 0 ≤ a ∧ a < 65536) (hb9 : 0 ≤ b ∧ b < 65536) (hc : 0 ≤ c ∧ c < 65536) : jk_K G yX13_needsThree mX13_needsThree 0 0 [.ref m, jI a, jI b, jI c] n t (md_pS σ m O sp w P) ρ (jk_q none n t (md_pS σ m O (md_n3 Bf ty a b c (sp, w)).1 (md_n3 Bf ty a b c (sp, w)).2 P) ρ) jk_no := by
  refine jk_entryB (ls := [some (.ref m), some (jI a), some (jI b), some (jI c)]) jm_X13_needsThree.1 rfl rfl rfl ?_
  obtain ⟨hs1, hs2⟩ := id hs
  have hhe := md_he_bd hB hty2 hs1
  refine jk_aload_n (q := 1) dX13_needsThree_0 rfl rfl ?_
  refine jk_iload_n (q := 2) dX13_needsThree_1 rfl rfl ?_
  refine jk_cV1v (q := 5) (c_X13_needs hm hb hB hty hty2 hs ha) jm_X13_needs jw_2396 rfl (by first | exact hm.1 | exact hm.2.1 _ _ rfl | assumption) rfl rfl rfl dX13_needsThree_2 rfl ?_
  refine jk_aload_n (q := 6) dX13_needsThree_5 rfl rfl ?_
  refine jk_iload_n (q := 7) dX13_needsThree_6 rfl rfl ?_
  refine jk_cV1v (q := 10) (c_X13_needs hm hb hB hty hty2 (md_nd_ok hB hty2 ha.1 (s := (sp, w)) hs) hb9) jm_X13_needs jw_2396 rfl (by first | exact hm.1 | exact hm.2.1 _ _ rfl | assumption) rfl rfl rfl dX13_needsThree_7 rfl ?_
  refine jk_aload_n (q := 11) dX13_needsThree_10 rfl rfl ?_
  refine jk_iload_n (q := 12) dX13_needsThree_11 rfl rfl ?_
  refine jk_cV1v (q := 15) (c_X13_needs hm hb hB hty hty2 (md_nd_ok hB hty2 hb9.1 (md_nd_ok hB hty2 ha.1 (s := (sp, w)) hs)) hc) jm_X13_needs jw_2396 rfl (by first | exact hm.1 | exact hm.2.1 _ _ rfl | assumption) rfl rfl rfl dX13_needsThree_12 rfl ?_
  exact jk_ret rfl dX13_needsThree_15 (by exact jk_qr)
theorem md_di_end {Bf : Int → Int} {ty sp : Int} {w wx : Bool} {most k : Nat} {x : Int × Int} (hwx : (w || !md_in (md_he Bf ty sp) 48 57) = wx) (h1 : wx = false → md_dl Bf ty (most - k) x = md_dl Bf ty most (sp, 0)) (h2 : wx = true → x = (sp, 0)) (he : wx = true ∨ most - k = 0 ∨ md_in (md_he Bf ty x.1) 48 57 = false) : md_di Bf ty most (sp, w) = ((x.1, wx), x.2) := by
  unfold md_di
  cases wx
  · rw [if_neg (by show ¬ (w || !md_in (md_he Bf ty sp) 48 57) = true; rw [hwx]; decide)]
    show ((( md_dl Bf ty most (sp, 0)).1, false), (md_dl Bf ty most (sp, 0)).2) = _
    rw [← h1 rfl]
    have e : md_dl Bf ty (most - k) x = x := by
      rcases he with h | h | h
      · exact absurd h (by decide)
      · rw [h]; rfl
      · match most - k with
        | 0 => rfl
        | f + 1 => unfold md_dl; rw [if_neg (by rw [h]; decide)]
    rw [e]
  · rw [if_pos (show (w || !md_in (md_he Bf ty sp) 48 57) = true from hwx), h2 rfl]
theorem c_X13_digits {G : jk_G} {n : Nat} {t : jk_T} {σ : jk_I} {ρ : jk_P} {m : Nat} {O Bf P : Int → Int} {ty sp : Int} {w : Bool} {most : Nat} (hm : md_at t ρ m) (hb : σ (m + 10) = Bf) (hB : ∀ j, 0 ≤ j ∧ j < 60 → 0 ≤ Bf j ∧ Bf j < 65536) (hty : O 7 = ty) (hty2 : 0 ≤ ty ∧ ty ≤ 60) (hs : md_sok ty sp) (hmost : most ≤ 5) : jk_K G yX13_digits mX13_digits 0 0 [.ref m, jI (most : Int)] n t (md_pS σ m O sp w P) ρ (jk_q (some (jI (md_di Bf ty most (sp, w)).2)) n t (md_pS σ m O (md_di Bf ty most (sp, w)).1.1 (md_di Bf ty most (sp, w)).1.2 P) ρ) jk_no := by
  refine jk_entryB (ls := [some (.ref m), some (jI (most : Int)), none, none]) jm_X13_digits.1 rfl rfl rfl ?_
  obtain ⟨hs1, hs2⟩ := id hs
  have hhe := md_he_bd hB hty2 hs1
  refine jk_aload_n (q := 1) dX13_digits_0 rfl rfl ?_
  refine jk_aload_n (q := 2) dX13_digits_1 rfl rfl ?_
  refine jk_getIR (q := 5) (k := 13) 21 21 rfl (by first | exact hm.1 | exact hm.2.1 _ _ rfl | assumption) (by first | exact jk_row_same _ _ _ | exact (md_pS_m _ _ _ _ _ _) | exact (md_pS_p _ _ _ _ _ _) | exact ((md_pS_ne _ _ _ _ _ _ (by omega) (by omega)).trans hb) | (rewrite [jk_row_ne _ _ (by omega)]; first | exact jk_row_same _ _ _ | exact (md_pS_m _ _ _ _ _ _) | exact (md_pS_p _ _ _ _ _ _) | exact ((md_pS_ne _ _ _ _ _ _ (by omega) (by omega)).trans hb) | (rewrite [jk_row_ne _ _ (by omega)]; first | exact jk_row_same _ _ _ | exact (md_pS_m _ _ _ _ _ _) | exact (md_pS_p _ _ _ _ _ _) | exact ((md_pS_ne _ _ _ _ _ _ (by omega) (by omega)).trans hb) | (rewrite [jk_row_ne _ _ (by omega)]; first | exact jk_row_same _ _ _ | exact (md_pS_m _ _ _ _ _ _) | exact (md_pS_p _ _ _ _ _ _) | exact ((md_pS_ne _ _ _ _ _ _ (by omega) (by omega)).trans hb) | (rewrite [jk_row_ne _ _ (by omega)]; first | exact (md_pS_m _ _ _ _ _ _) | exact (md_pS_p _ _ _ _ _ _) | exact ((md_pS_ne _ _ _ _ _ _ (by omega) (by omega)).trans hb) | rfl))))) rfl rfl jw_1869 dX13_digits_2 rfl ?_
  rw [jk_set_at]
  refine jk_ifB_ne (q := 22) (q2 := 8) dX13_digits_5 rfl rfl (fun h1 => ?_) (fun h1 => ?_)
  · refine jk_iconst (q := 23) dX13_digits_22 rfl ?_
    refine jk_goto (q := 27) dX13_digits_23 rfl ?_
    refine jk_putZR (q := 30) (k := 13) 21 21 rfl (by first | exact hm.1 | exact hm.2.1 _ _ rfl | assumption) (by first | exact jk_row_same _ _ _ | exact (md_pS_m _ _ _ _ _ _) | exact (md_pS_p _ _ _ _ _ _) | exact ((md_pS_ne _ _ _ _ _ _ (by omega) (by omega)).trans hb) | (rewrite [jk_row_ne _ _ (by omega)]; first | exact jk_row_same _ _ _ | exact (md_pS_m _ _ _ _ _ _) | exact (md_pS_p _ _ _ _ _ _) | exact ((md_pS_ne _ _ _ _ _ _ (by omega) (by omega)).trans hb) | (rewrite [jk_row_ne _ _ (by omega)]; first | exact jk_row_same _ _ _ | exact (md_pS_m _ _ _ _ _ _) | exact (md_pS_p _ _ _ _ _ _) | exact ((md_pS_ne _ _ _ _ _ _ (by omega) (by omega)).trans hb) | (rewrite [jk_row_ne _ _ (by omega)]; first | exact jk_row_same _ _ _ | exact (md_pS_m _ _ _ _ _ _) | exact (md_pS_p _ _ _ _ _ _) | exact ((md_pS_ne _ _ _ _ _ _ (by omega) (by omega)).trans hb) | (rewrite [jk_row_ne _ _ (by omega)]; first | exact (md_pS_m _ _ _ _ _ _) | exact (md_pS_p _ _ _ _ _ _) | exact ((md_pS_ne _ _ _ _ _ _ (by omega) (by omega)).trans hb) | rfl))))) rfl rfl rfl (by first | decide | omega | exact jB_01 _) jw_1869 dX13_digits_27 rfl ?_
    rw [← jB_t, md_pS_w]
    refine jk_iconst (q := 31) dX13_digits_30 rfl ?_
    refine jk_istore2 (q := 32) dX13_digits_31 rfl rfl rfl ?_
    refine jk_iconst (q := 33) dX13_digits_32 rfl ?_
    refine jk_istore3 (q := 34) dX13_digits_33 rfl rfl rfl ?_
    have L34 : ∀ k34 : Nat, k34 ≤ most → ∀ (x : Int × Int) (wx : Bool), (hwx : (w || !md_in (md_he Bf ty sp) 48 57) = wx) → (hw : wx = false → md_dl Bf ty (most - k34) x = md_dl Bf ty most (sp, 0)) → (h2x : wx = true → x = (sp, 0)) → (hsx : md_sok ty x.1) → jk_J G mX13_digits 34 [some (.ref m), some (jI (most : Int)), some (jI x.2), some (jI (k34 : Int))] [] n t (md_pS σ m O x.1 wx P) ρ 0 0 (jk_q (some (jI (md_di Bf ty most (sp, w)).2)) n t (md_pS σ m O (md_di Bf ty most (sp, w)).1.1 (md_di Bf ty most (sp, w)).1.2 P) ρ) jk_no := by
      refine jk_loop _ (fun k34 hk34 ih34 => ?_)
      intro x wx hwx hw h2x hsx
      have hhx := md_he_bd (Bf := Bf) hB hty2 hsx.1
      refine jk_aload_n (q := 35) dX13_digits_34 rfl rfl ?_
      refine jk_getIR (q := 38) (k := 13) 21 21 rfl (by first | exact hm.1 | exact hm.2.1 _ _ rfl | assumption) (by first | exact jk_row_same _ _ _ | exact (md_pS_m _ _ _ _ _ _) | exact (md_pS_p _ _ _ _ _ _) | exact ((md_pS_ne _ _ _ _ _ _ (by omega) (by omega)).trans hb) | (rewrite [jk_row_ne _ _ (by omega)]; first | exact jk_row_same _ _ _ | exact (md_pS_m _ _ _ _ _ _) | exact (md_pS_p _ _ _ _ _ _) | exact ((md_pS_ne _ _ _ _ _ _ (by omega) (by omega)).trans hb) | (rewrite [jk_row_ne _ _ (by omega)]; first | exact jk_row_same _ _ _ | exact (md_pS_m _ _ _ _ _ _) | exact (md_pS_p _ _ _ _ _ _) | exact ((md_pS_ne _ _ _ _ _ _ (by omega) (by omega)).trans hb) | (rewrite [jk_row_ne _ _ (by omega)]; first | exact jk_row_same _ _ _ | exact (md_pS_m _ _ _ _ _ _) | exact (md_pS_p _ _ _ _ _ _) | exact ((md_pS_ne _ _ _ _ _ _ (by omega) (by omega)).trans hb) | (rewrite [jk_row_ne _ _ (by omega)]; first | exact (md_pS_m _ _ _ _ _ _) | exact (md_pS_p _ _ _ _ _ _) | exact ((md_pS_ne _ _ _ _ _ _ (by omega) (by omega)).trans hb) | rfl))))) rfl rfl jw_1869 dX13_digits_35 rfl ?_
      rw [jk_set_at]
      refine jk_ifB_ne (q := 89) (q2 := 41) dX13_digits_38 rfl rfl (fun h2 => ?_) (fun h2 => ?_)
      · refine jk_iload_n (q := 90) dX13_digits_89 rfl rfl ?_
        exact jk_iret rfl dX13_digits_90 (by rw [md_di_end hwx hw h2x (by first | exact Or.inl (by assumption) | exact Or.inr (Or.inl (by omega)) | exact Or.inr (Or.inr (by assumption)))]; exact jk_qr)
      · refine jk_iload_n (q := 42) dX13_digits_41 rfl rfl ?_
        refine jk_iload_n (q := 43) dX13_digits_42 rfl rfl ?_
        refine jk_icmp_ge (q := 89) (q2 := 46) dX13_digits_43 rfl rfl (by first | decide | omega | exact jB_01 _) (by first | decide | omega | exact jB_01 _) (fun h3 => ?_) (fun h3 => ?_)
        · refine jk_iload_n (q := 90) dX13_digits_89 rfl rfl ?_
          exact jk_iret rfl dX13_digits_90 (by rw [md_di_end hwx hw h2x (by first | exact Or.inl (by assumption) | exact Or.inr (Or.inl (by omega)) | exact Or.inr (Or.inr (by assumption)))]; exact jk_qr)
        · refine jk_aload_n (q := 47) dX13_digits_46 rfl rfl ?_
          refine jk_cV0p (q := 50) (c_X13_here hm hb hB hty hty2 hsx) jm_X13_here jw_2384 rfl (by first | exact hm.1 | exact hm.2.1 _ _ rfl | assumption) rfl rfl rfl dX13_digits_47 rfl ?_
          refine jk_bipush (q := 52) (y := 48) dX13_digits_50 rfl (by decide) ?_
          refine jk_bipush (q := 54) (y := 57) dX13_digits_52 rfl (by decide) ?_
          refine jk_cS3p (q := 57) (c_X13_in ⟨by omega, by omega⟩ (by decide) (by decide)) jm_X13_in jw_1961 rfl rfl rfl dX13_digits_54 rfl ?_
          refine jk_ifB_eq (q := 89) (q2 := 60) dX13_digits_57 rfl rfl (fun h4 => ?_) (fun h4 => ?_)
          · refine jk_iload_n (q := 90) dX13_digits_89 rfl rfl ?_
            exact jk_iret rfl dX13_digits_90 (by rw [md_di_end hwx hw h2x (by first | exact Or.inl (by assumption) | exact Or.inr (Or.inl (by omega)) | exact Or.inr (Or.inr (by assumption)))]; exact jk_qr)
          · refine jk_bipush (q := 62) (y := 10) dX13_digits_60 rfl (by decide) ?_
            refine jk_iload_n (q := 63) dX13_digits_62 rfl rfl ?_
            refine jk_imul (q := 64) dX13_digits_63 rfl ?_
            refine jk_aload_n (q := 65) dX13_digits_64 rfl rfl ?_
            refine jk_cV0p (q := 68) (c_X13_here hm hb hB hty hty2 hsx) jm_X13_here jw_2384 rfl (by first | exact hm.1 | exact hm.2.1 _ _ rfl | assumption) rfl rfl rfl dX13_digits_65 rfl ?_
            refine jk_iadd (q := 69) dX13_digits_68 rfl ?_
            refine jk_bipush (q := 71) (y := 48) dX13_digits_69 rfl (by decide) ?_
            refine jk_isub (q := 72) dX13_digits_71 rfl ?_
            refine jk_istore2 (q := 73) dX13_digits_72 rfl rfl rfl ?_
            refine jk_aload_n (q := 74) dX13_digits_73 rfl rfl ?_
            refine jk_dup (q := 75) dX13_digits_74 rfl rfl ?_
            refine jk_getIR (q := 78) (k := 13) 20 20 rfl (by first | exact hm.1 | exact hm.2.1 _ _ rfl | assumption) (by first | exact jk_row_same _ _ _ | exact (md_pS_m _ _ _ _ _ _) | exact (md_pS_p _ _ _ _ _ _) | exact ((md_pS_ne _ _ _ _ _ _ (by omega) (by omega)).trans hb) | (rewrite [jk_row_ne _ _ (by omega)]; first | exact jk_row_same _ _ _ | exact (md_pS_m _ _ _ _ _ _) | exact (md_pS_p _ _ _ _ _ _) | exact ((md_pS_ne _ _ _ _ _ _ (by omega) (by omega)).trans hb) | (rewrite [jk_row_ne _ _ (by omega)]; first | exact jk_row_same _ _ _ | exact (md_pS_m _ _ _ _ _ _) | exact (md_pS_p _ _ _ _ _ _) | exact ((md_pS_ne _ _ _ _ _ _ (by omega) (by omega)).trans hb) | (rewrite [jk_row_ne _ _ (by omega)]; first | exact jk_row_same _ _ _ | exact (md_pS_m _ _ _ _ _ _) | exact (md_pS_p _ _ _ _ _ _) | exact ((md_pS_ne _ _ _ _ _ _ (by omega) (by omega)).trans hb) | (rewrite [jk_row_ne _ _ (by omega)]; first | exact (md_pS_m _ _ _ _ _ _) | exact (md_pS_p _ _ _ _ _ _) | exact ((md_pS_ne _ _ _ _ _ _ (by omega) (by omega)).trans hb) | rfl))))) rfl rfl jw_1868 dX13_digits_75 rfl ?_
            rw [md_f20]
            refine jk_iconst (q := 79) dX13_digits_78 rfl ?_
            refine jk_iadd (q := 80) dX13_digits_79 rfl ?_
            refine jk_putIR (q := 83) (k := 13) 20 20 rfl (by first | exact hm.1 | exact hm.2.1 _ _ rfl | assumption) (by first | exact jk_row_same _ _ _ | exact (md_pS_m _ _ _ _ _ _) | exact (md_pS_p _ _ _ _ _ _) | exact ((md_pS_ne _ _ _ _ _ _ (by omega) (by omega)).trans hb) | (rewrite [jk_row_ne _ _ (by omega)]; first | exact jk_row_same _ _ _ | exact (md_pS_m _ _ _ _ _ _) | exact (md_pS_p _ _ _ _ _ _) | exact ((md_pS_ne _ _ _ _ _ _ (by omega) (by omega)).trans hb) | (rewrite [jk_row_ne _ _ (by omega)]; first | exact jk_row_same _ _ _ | exact (md_pS_m _ _ _ _ _ _) | exact (md_pS_p _ _ _ _ _ _) | exact ((md_pS_ne _ _ _ _ _ _ (by omega) (by omega)).trans hb) | (rewrite [jk_row_ne _ _ (by omega)]; first | exact jk_row_same _ _ _ | exact (md_pS_m _ _ _ _ _ _) | exact (md_pS_p _ _ _ _ _ _) | exact ((md_pS_ne _ _ _ _ _ _ (by omega) (by omega)).trans hb) | (rewrite [jk_row_ne _ _ (by omega)]; first | exact (md_pS_m _ _ _ _ _ _) | exact (md_pS_p _ _ _ _ _ _) | exact ((md_pS_ne _ _ _ _ _ _ (by omega) (by omega)).trans hb) | rfl))))) rfl rfl rfl jw_1868 dX13_digits_80 rfl ?_
            rw [md_pS_sp]
            refine jk_iinc3 (q := 86) dX13_digits_83 rfl rfl rfl ?_
            refine jk_goto (q := 34) dX13_digits_86 rfl ?_
            have hin9 := md_inT (by assumption : md_in (md_he Bf ty x.1) 48 57 = true)
            refine ih34 (by omega) (x.1 + 1, 10 * x.2 + md_he Bf ty x.1 - 48) wx hwx (fun hf => ?_) (fun h => absurd (h.symm.trans (by assumption : wx = false)) (by decide)) (by have := hsx; unfold md_sok at *; show 0 ≤ x.1 + 1 ∧ x.1 + 1 ≤ ty; omega)
            rw [← hw hf, show most - k34 = (most - (k34 + 1)) + 1 by omega]
            conv => rhs; unfold md_dl
            rw [if_pos (by assumption)]
    exact L34 0 (Nat.zero_le _) (sp, 0) _ (by simp [*]) (fun _ => rfl) (fun _ => rfl) hs
  · refine jk_aload_n (q := 9) dX13_digits_8 rfl rfl ?_
    refine jk_cV0p (q := 12) (c_X13_here hm hb hB hty hty2 hs) jm_X13_here jw_2384 rfl (by first | exact hm.1 | exact hm.2.1 _ _ rfl | assumption) rfl rfl rfl dX13_digits_9 rfl ?_
    refine jk_bipush (q := 14) (y := 48) dX13_digits_12 rfl (by decide) ?_
    refine jk_bipush (q := 16) (y := 57) dX13_digits_14 rfl (by decide) ?_
    refine jk_cS3p (q := 19) (c_X13_in ⟨by omega, by omega⟩ (by decide) (by decide)) jm_X13_in jw_1961 rfl rfl rfl dX13_digits_16 rfl ?_
    refine jk_ifB_ne (q := 26) (q2 := 22) dX13_digits_19 rfl rfl (fun h5 => ?_) (fun h5 => ?_)
    · refine jk_iconst (q := 27) dX13_digits_26 rfl ?_
      refine jk_putZR (q := 30) (k := 13) 21 21 rfl (by first | exact hm.1 | exact hm.2.1 _ _ rfl | assumption) (by first | exact jk_row_same _ _ _ | exact (md_pS_m _ _ _ _ _ _) | exact (md_pS_p _ _ _ _ _ _) | exact ((md_pS_ne _ _ _ _ _ _ (by omega) (by omega)).trans hb) | (rewrite [jk_row_ne _ _ (by omega)]; first | exact jk_row_same _ _ _ | exact (md_pS_m _ _ _ _ _ _) | exact (md_pS_p _ _ _ _ _ _) | exact ((md_pS_ne _ _ _ _ _ _ (by omega) (by omega)).trans hb) | (rewrite [jk_row_ne _ _ (by omega)]; first | exact jk_row_same _ _ _ | exact (md_pS_m _ _ _ _ _ _) | exact (md_pS_p _ _ _ _ _ _) | exact ((md_pS_ne _ _ _ _ _ _ (by omega) (by omega)).trans hb) | (rewrite [jk_row_ne _ _ (by omega)]; first | exact jk_row_same _ _ _ | exact (md_pS_m _ _ _ _ _ _) | exact (md_pS_p _ _ _ _ _ _) | exact ((md_pS_ne _ _ _ _ _ _ (by omega) (by omega)).trans hb) | (rewrite [jk_row_ne _ _ (by omega)]; first | exact (md_pS_m _ _ _ _ _ _) | exact (md_pS_p _ _ _ _ _ _) | exact ((md_pS_ne _ _ _ _ _ _ (by omega) (by omega)).trans hb) | rfl))))) rfl rfl rfl (by first | decide | omega | exact jB_01 _) jw_1869 dX13_digits_27 rfl ?_
      rw [← jB_f, md_pS_w]
      refine jk_iconst (q := 31) dX13_digits_30 rfl ?_
      refine jk_istore2 (q := 32) dX13_digits_31 rfl rfl rfl ?_
      refine jk_iconst (q := 33) dX13_digits_32 rfl ?_
      refine jk_istore3 (q := 34) dX13_digits_33 rfl rfl rfl ?_
      have L34 : ∀ k34 : Nat, k34 ≤ most → ∀ (x : Int × Int) (wx : Bool), (hwx : (w || !md_in (md_he Bf ty sp) 48 57) = wx) → (hw : wx = false → md_dl Bf ty (most - k34) x = md_dl Bf ty most (sp, 0)) → (h2x : wx = true → x = (sp, 0)) → (hsx : md_sok ty x.1) → jk_J G mX13_digits 34 [some (.ref m), some (jI (most : Int)), some (jI x.2), some (jI (k34 : Int))] [] n t (md_pS σ m O x.1 wx P) ρ 0 0 (jk_q (some (jI (md_di Bf ty most (sp, w)).2)) n t (md_pS σ m O (md_di Bf ty most (sp, w)).1.1 (md_di Bf ty most (sp, w)).1.2 P) ρ) jk_no := by
        refine jk_loop _ (fun k34 hk34 ih34 => ?_)
        intro x wx hwx hw h2x hsx
        have hhx := md_he_bd (Bf := Bf) hB hty2 hsx.1
        refine jk_aload_n (q := 35) dX13_digits_34 rfl rfl ?_
        refine jk_getIR (q := 38) (k := 13) 21 21 rfl (by first | exact hm.1 | exact hm.2.1 _ _ rfl | assumption) (by first | exact jk_row_same _ _ _ | exact (md_pS_m _ _ _ _ _ _) | exact (md_pS_p _ _ _ _ _ _) | exact ((md_pS_ne _ _ _ _ _ _ (by omega) (by omega)).trans hb) | (rewrite [jk_row_ne _ _ (by omega)]; first | exact jk_row_same _ _ _ | exact (md_pS_m _ _ _ _ _ _) | exact (md_pS_p _ _ _ _ _ _) | exact ((md_pS_ne _ _ _ _ _ _ (by omega) (by omega)).trans hb) | (rewrite [jk_row_ne _ _ (by omega)]; first | exact jk_row_same _ _ _ | exact (md_pS_m _ _ _ _ _ _) | exact (md_pS_p _ _ _ _ _ _) | exact ((md_pS_ne _ _ _ _ _ _ (by omega) (by omega)).trans hb) | (rewrite [jk_row_ne _ _ (by omega)]; first | exact jk_row_same _ _ _ | exact (md_pS_m _ _ _ _ _ _) | exact (md_pS_p _ _ _ _ _ _) | exact ((md_pS_ne _ _ _ _ _ _ (by omega) (by omega)).trans hb) | (rewrite [jk_row_ne _ _ (by omega)]; first | exact (md_pS_m _ _ _ _ _ _) | exact (md_pS_p _ _ _ _ _ _) | exact ((md_pS_ne _ _ _ _ _ _ (by omega) (by omega)).trans hb) | rfl))))) rfl rfl jw_1869 dX13_digits_35 rfl ?_
        rw [jk_set_at]
        refine jk_ifB_ne (q := 89) (q2 := 41) dX13_digits_38 rfl rfl (fun h6 => ?_) (fun h6 => ?_)
        · refine jk_iload_n (q := 90) dX13_digits_89 rfl rfl ?_
          exact jk_iret rfl dX13_digits_90 (by rw [md_di_end hwx hw h2x (by first | exact Or.inl (by assumption) | exact Or.inr (Or.inl (by omega)) | exact Or.inr (Or.inr (by assumption)))]; exact jk_qr)
        · refine jk_iload_n (q := 42) dX13_digits_41 rfl rfl ?_
          refine jk_iload_n (q := 43) dX13_digits_42 rfl rfl ?_
          refine jk_icmp_ge (q := 89) (q2 := 46) dX13_digits_43 rfl rfl (by first | decide | omega | exact jB_01 _) (by first | decide | omega | exact jB_01 _) (fun h7 => ?_) (fun h7 => ?_)
          · refine jk_iload_n (q := 90) dX13_digits_89 rfl rfl ?_
            exact jk_iret rfl dX13_digits_90 (by rw [md_di_end hwx hw h2x (by first | exact Or.inl (by assumption) | exact Or.inr (Or.inl (by omega)) | exact Or.inr (Or.inr (by assumption)))]; exact jk_qr)
          · refine jk_aload_n (q := 47) dX13_digits_46 rfl rfl ?_
            refine jk_cV0p (q := 50) (c_X13_here hm hb hB hty hty2 hsx) jm_X13_here jw_2384 rfl (by first | exact hm.1 | exact hm.2.1 _ _ rfl | assumption) rfl rfl rfl dX13_digits_47 rfl ?_
            refine jk_bipush (q := 52) (y := 48) dX13_digits_50 rfl (by decide) ?_
            refine jk_bipush (q := 54) (y := 57) dX13_digits_52 rfl (by decide) ?_
            refine jk_cS3p (q := 57) (c_X13_in ⟨by omega, by omega⟩ (by decide) (by decide)) jm_X13_in jw_1961 rfl rfl rfl dX13_digits_54 rfl ?_
            refine jk_ifB_eq (q := 89) (q2 := 60) dX13_digits_57 rfl rfl (fun h8 => ?_) (fun h8 => ?_)
            · refine jk_iload_n (q := 90) dX13_digits_89 rfl rfl ?_
              exact jk_iret rfl dX13_digits_90 (by rw [md_di_end hwx hw h2x (by first | exact Or.inl (by assumption) | exact Or.inr (Or.inl (by omega)) | exact Or.inr (Or.inr (by assumption)))]; exact jk_qr)
            · refine jk_bipush (q := 62) (y := 10) dX13_digits_60 rfl (by decide) ?_
              refine jk_iload_n (q := 63) dX13_digits_62 rfl rfl ?_
              refine jk_imul (q := 64) dX13_digits_63 rfl ?_
              refine jk_aload_n (q := 65) dX13_digits_64 rfl rfl ?_
              refine jk_cV0p (q := 68) (c_X13_here hm hb hB hty hty2 hsx) jm_X13_here jw_2384 rfl (by first | exact hm.1 | exact hm.2.1 _ _ rfl | assumption) rfl rfl rfl dX13_digits_65 rfl ?_
              refine jk_iadd (q := 69) dX13_digits_68 rfl ?_
              refine jk_bipush (q := 71) (y := 48) dX13_digits_69 rfl (by decide) ?_
              refine jk_isub (q := 72) dX13_digits_71 rfl ?_
              refine jk_istore2 (q := 73) dX13_digits_72 rfl rfl rfl ?_
              refine jk_aload_n (q := 74) dX13_digits_73 rfl rfl ?_
              refine jk_dup (q := 75) dX13_digits_74 rfl rfl ?_
              refine jk_getIR (q := 78) (k := 13) 20 20 rfl (by first | exact hm.1 | exact hm.2.1 _ _ rfl | assumption) (by first | exact jk_row_same _ _ _ | exact (md_pS_m _ _ _ _ _ _) | exact (md_pS_p _ _ _ _ _ _) | exact ((md_pS_ne _ _ _ _ _ _ (by omega) (by omega)).trans hb) | (rewrite [jk_row_ne _ _ (by omega)]; first | exact jk_row_same _ _ _ | exact (md_pS_m _ _ _ _ _ _) | exact (md_pS_p _ _ _ _ _ _) | exact ((md_pS_ne _ _ _ _ _ _ (by omega) (by omega)).trans hb) | (rewrite [jk_row_ne _ _ (by omega)]; first | exact jk_row_same _ _ _ | exact (md_pS_m _ _ _ _ _ _) | exact (md_pS_p _ _ _ _ _ _) | exact ((md_pS_ne _ _ _ _ _ _ (by omega) (by omega)).trans hb) | (rewrite [jk_row_ne _ _ (by omega)]; first | exact jk_row_same _ _ _ | exact (md_pS_m _ _ _ _ _ _) | exact (md_pS_p _ _ _ _ _ _) | exact ((md_pS_ne _ _ _ _ _ _ (by omega) (by omega)).trans hb) | (rewrite [jk_row_ne _ _ (by omega)]; first | exact (md_pS_m _ _ _ _ _ _) | exact (md_pS_p _ _ _ _ _ _) | exact ((md_pS_ne _ _ _ _ _ _ (by omega) (by omega)).trans hb) | rfl))))) rfl rfl jw_1868 dX13_digits_75 rfl ?_
              rw [md_f20]
              refine jk_iconst (q := 79) dX13_digits_78 rfl ?_
              refine jk_iadd (q := 80) dX13_digits_79 rfl ?_
              refine jk_putIR (q := 83) (k := 13) 20 20 rfl (by first | exact hm.1 | exact hm.2.1 _ _ rfl | assumption) (by first | exact jk_row_same _ _ _ | exact (md_pS_m _ _ _ _ _ _) | exact (md_pS_p _ _ _ _ _ _) | exact ((md_pS_ne _ _ _ _ _ _ (by omega) (by omega)).trans hb) | (rewrite [jk_row_ne _ _ (by omega)]; first | exact jk_row_same _ _ _ | exact (md_pS_m _ _ _ _ _ _) | exact (md_pS_p _ _ _ _ _ _) | exact ((md_pS_ne _ _ _ _ _ _ (by omega) (by omega)).trans hb) | (rewrite [jk_row_ne _ _ (by omega)]; first | exact jk_row_same _ _ _ | exact (md_pS_m _ _ _ _ _ _) | exact (md_pS_p _ _ _ _ _ _) | exact ((md_pS_ne _ _ _ _ _ _ (by omega) (by omega)).trans hb) | (rewrite [jk_row_ne _ _ (by omega)]; first | exact jk_row_same _ _ _ | exact (md_pS_m _ _ _ _ _ _) | exact (md_pS_p _ _ _ _ _ _) | exact ((md_pS_ne _ _ _ _ _ _ (by omega) (by omega)).trans hb) | (rewrite [jk_row_ne _ _ (by omega)]; first | exact (md_pS_m _ _ _ _ _ _) | exact (md_pS_p _ _ _ _ _ _) | exact ((md_pS_ne _ _ _ _ _ _ (by omega) (by omega)).trans hb) | rfl))))) rfl rfl rfl jw_1868 dX13_digits_80 rfl ?_
              rw [md_pS_sp]
              refine jk_iinc3 (q := 86) dX13_digits_83 rfl rfl rfl ?_
              refine jk_goto (q := 34) dX13_digits_86 rfl ?_
              have hin9 := md_inT (by assumption : md_in (md_he Bf ty x.1) 48 57 = true)
              refine ih34 (by omega) (x.1 + 1, 10 * x.2 + md_he Bf ty x.1 - 48) wx hwx (fun hf => ?_) (fun h => absurd (h.symm.trans (by assumption : wx = false)) (by decide)) (by have := hsx; unfold md_sok at *; show 0 ≤ x.1 + 1 ∧ x.1 + 1 ≤ ty; omega)
              rw [← hw hf, show most - k34 = (most - (k34 + 1)) + 1 by omega]
              conv => rhs; unfold md_dl
              rw [if_pos (by assumption)]
      exact L34 0 (Nat.zero_le _) (sp, 0) _ (by simp [*]) (fun _ => rfl) (fun _ => rfl) hs
    · refine jk_iconst (q := 23) dX13_digits_22 rfl ?_
      refine jk_goto (q := 27) dX13_digits_23 rfl ?_
      refine jk_putZR (q := 30) (k := 13) 21 21 rfl (by first | exact hm.1 | exact hm.2.1 _ _ rfl | assumption) (by first | exact jk_row_same _ _ _ | exact (md_pS_m _ _ _ _ _ _) | exact (md_pS_p _ _ _ _ _ _) | exact ((md_pS_ne _ _ _ _ _ _ (by omega) (by omega)).trans hb) | (rewrite [jk_row_ne _ _ (by omega)]; first | exact jk_row_same _ _ _ | exact (md_pS_m _ _ _ _ _ _) | exact (md_pS_p _ _ _ _ _ _) | exact ((md_pS_ne _ _ _ _ _ _ (by omega) (by omega)).trans hb) | (rewrite [jk_row_ne _ _ (by omega)]; first | exact jk_row_same _ _ _ | exact (md_pS_m _ _ _ _ _ _) | exact (md_pS_p _ _ _ _ _ _) | exact ((md_pS_ne _ _ _ _ _ _ (by omega) (by omega)).trans hb) | (rewrite [jk_row_ne _ _ (by omega)]; first | exact jk_row_same _ _ _ | exact (md_pS_m _ _ _ _ _ _) | exact (md_pS_p _ _ _ _ _ _) | exact ((md_pS_ne _ _ _ _ _ _ (by omega) (by omega)).trans hb) | (rewrite [jk_row_ne _ _ (by omega)]; first | exact (md_pS_m _ _ _ _ _ _) | exact (md_pS_p _ _ _ _ _ _) | exact ((md_pS_ne _ _ _ _ _ _ (by omega) (by omega)).trans hb) | rfl))))) rfl rfl rfl (by first | decide | omega | exact jB_01 _) jw_1869 dX13_digits_27 rfl ?_
      rw [← jB_t, md_pS_w]
      refine jk_iconst (q := 31) dX13_digits_30 rfl ?_
      refine jk_istore2 (q := 32) dX13_digits_31 rfl rfl rfl ?_
      refine jk_iconst (q := 33) dX13_digits_32 rfl ?_
      refine jk_istore3 (q := 34) dX13_digits_33 rfl rfl rfl ?_
      have L34 : ∀ k34 : Nat, k34 ≤ most → ∀ (x : Int × Int) (wx : Bool), (hwx : (w || !md_in (md_he Bf ty sp) 48 57) = wx) → (hw : wx = false → md_dl Bf ty (most - k34) x = md_dl Bf ty most (sp, 0)) → (h2x : wx = true → x = (sp, 0)) → (hsx : md_sok ty x.1) → jk_J G mX13_digits 34 [some (.ref m), some (jI (most : Int)), some (jI x.2), some (jI (k34 : Int))] [] n t (md_pS σ m O x.1 wx P) ρ 0 0 (jk_q (some (jI (md_di Bf ty most (sp, w)).2)) n t (md_pS σ m O (md_di Bf ty most (sp, w)).1.1 (md_di Bf ty most (sp, w)).1.2 P) ρ) jk_no := by
        refine jk_loop _ (fun k34 hk34 ih34 => ?_)
        intro x wx hwx hw h2x hsx
        have hhx := md_he_bd (Bf := Bf) hB hty2 hsx.1
        refine jk_aload_n (q := 35) dX13_digits_34 rfl rfl ?_
        refine jk_getIR (q := 38) (k := 13) 21 21 rfl (by first | exact hm.1 | exact hm.2.1 _ _ rfl | assumption) (by first | exact jk_row_same _ _ _ | exact (md_pS_m _ _ _ _ _ _) | exact (md_pS_p _ _ _ _ _ _) | exact ((md_pS_ne _ _ _ _ _ _ (by omega) (by omega)).trans hb) | (rewrite [jk_row_ne _ _ (by omega)]; first | exact jk_row_same _ _ _ | exact (md_pS_m _ _ _ _ _ _) | exact (md_pS_p _ _ _ _ _ _) | exact ((md_pS_ne _ _ _ _ _ _ (by omega) (by omega)).trans hb) | (rewrite [jk_row_ne _ _ (by omega)]; first | exact jk_row_same _ _ _ | exact (md_pS_m _ _ _ _ _ _) | exact (md_pS_p _ _ _ _ _ _) | exact ((md_pS_ne _ _ _ _ _ _ (by omega) (by omega)).trans hb) | (rewrite [jk_row_ne _ _ (by omega)]; first | exact jk_row_same _ _ _ | exact (md_pS_m _ _ _ _ _ _) | exact (md_pS_p _ _ _ _ _ _) | exact ((md_pS_ne _ _ _ _ _ _ (by omega) (by omega)).trans hb) | (rewrite [jk_row_ne _ _ (by omega)]; first | exact (md_pS_m _ _ _ _ _ _) | exact (md_pS_p _ _ _ _ _ _) | exact ((md_pS_ne _ _ _ _ _ _ (by omega) (by omega)).trans hb) | rfl))))) rfl rfl jw_1869 dX13_digits_35 rfl ?_
        rw [jk_set_at]
        refine jk_ifB_ne (q := 89) (q2 := 41) dX13_digits_38 rfl rfl (fun h9 => ?_) (fun h9 => ?_)
        · refine jk_iload_n (q := 90) dX13_digits_89 rfl rfl ?_
          exact jk_iret rfl dX13_digits_90 (by rw [md_di_end hwx hw h2x (by first | exact Or.inl (by assumption) | exact Or.inr (Or.inl (by omega)) | exact Or.inr (Or.inr (by assumption)))]; exact jk_qr)
        · refine jk_iload_n (q := 42) dX13_digits_41 rfl rfl ?_
          refine jk_iload_n (q := 43) dX13_digits_42 rfl rfl ?_
          refine jk_icmp_ge (q := 89) (q2 := 46) dX13_digits_43 rfl rfl (by first | decide | omega | exact jB_01 _) (by first | decide | omega | exact jB_01 _) (fun h10 => ?_) (fun h10 => ?_)
          · refine jk_iload_n (q := 90) dX13_digits_89 rfl rfl ?_
            exact jk_iret rfl dX13_digits_90 (by rw [md_di_end hwx hw h2x (by first | exact Or.inl (by assumption) | exact Or.inr (Or.inl (by omega)) | exact Or.inr (Or.inr (by assumption)))]; exact jk_qr)
          · refine jk_aload_n (q := 47) dX13_digits_46 rfl rfl ?_
            refine jk_cV0p (q := 50) (c_X13_here hm hb hB hty hty2 hsx) jm_X13_here jw_2384 rfl (by first | exact hm.1 | exact hm.2.1 _ _ rfl | assumption) rfl rfl rfl dX13_digits_47 rfl ?_
            refine jk_bipush (q := 52) (y := 48) dX13_digits_50 rfl (by decide) ?_
            refine jk_bipush (q := 54) (y := 57) dX13_digits_52 rfl (by decide) ?_
            refine jk_cS3p (q := 57) (c_X13_in ⟨by omega, by omega⟩ (by decide) (by decide)) jm_X13_in jw_1961 rfl rfl rfl dX13_digits_54 rfl ?_
            refine jk_ifB_eq (q := 89) (q2 := 60) dX13_digits_57 rfl rfl (fun h11 => ?_) (fun h11 => ?_)
            · refine jk_iload_n (q := 90) dX13_digits_89 rfl rfl ?_
              exact jk_iret rfl dX13_digits_90 (by rw [md_di_end hwx hw h2x (by first | exact Or.inl (by assumption) | exact Or.inr (Or.inl (by omega)) | exact Or.inr (Or.inr (by assumption)))]; exact jk_qr)
            · refine jk_bipush (q := 62) (y := 10) dX13_digits_60 rfl (by decide) ?_
              refine jk_iload_n (q := 63) dX13_digits_62 rfl rfl ?_
              refine jk_imul (q := 64) dX13_digits_63 rfl ?_
              refine jk_aload_n (q := 65) dX13_digits_64 rfl rfl ?_
              refine jk_cV0p (q := 68) (c_X13_here hm hb hB hty hty2 hsx) jm_X13_here jw_2384 rfl (by first | exact hm.1 | exact hm.2.1 _ _ rfl | assumption) rfl rfl rfl dX13_digits_65 rfl ?_
              refine jk_iadd (q := 69) dX13_digits_68 rfl ?_
              refine jk_bipush (q := 71) (y := 48) dX13_digits_69 rfl (by decide) ?_
              refine jk_isub (q := 72) dX13_digits_71 rfl ?_
              refine jk_istore2 (q := 73) dX13_digits_72 rfl rfl rfl ?_
              refine jk_aload_n (q := 74) dX13_digits_73 rfl rfl ?_
              refine jk_dup (q := 75) dX13_digits_74 rfl rfl ?_
              refine jk_getIR (q := 78) (k := 13) 20 20 rfl (by first | exact hm.1 | exact hm.2.1 _ _ rfl | assumption) (by first | exact jk_row_same _ _ _ | exact (md_pS_m _ _ _ _ _ _) | exact (md_pS_p _ _ _ _ _ _) | exact ((md_pS_ne _ _ _ _ _ _ (by omega) (by omega)).trans hb) | (rewrite [jk_row_ne _ _ (by omega)]; first | exact jk_row_same _ _ _ | exact (md_pS_m _ _ _ _ _ _) | exact (md_pS_p _ _ _ _ _ _) | exact ((md_pS_ne _ _ _ _ _ _ (by omega) (by omega)).trans hb) | (rewrite [jk_row_ne _ _ (by omega)]; first | exact jk_row_same _ _ _ | exact (md_pS_m _ _ _ _ _ _) | exact (md_pS_p _ _ _ _ _ _) | exact ((md_pS_ne _ _ _ _ _ _ (by omega) (by omega)).trans hb) | (rewrite [jk_row_ne _ _ (by omega)]; first | exact jk_row_same _ _ _ | exact (md_pS_m _ _ _ _ _ _) | exact (md_pS_p _ _ _ _ _ _) | exact ((md_pS_ne _ _ _ _ _ _ (by omega) (by omega)).trans hb) | (rewrite [jk_row_ne _ _ (by omega)]; first | exact (md_pS_m _ _ _ _ _ _) | exact (md_pS_p _ _ _ _ _ _) | exact ((md_pS_ne _ _ _ _ _ _ (by omega) (by omega)).trans hb) | rfl))))) rfl rfl jw_1868 dX13_digits_75 rfl ?_
              rw [md_f20]
              refine jk_iconst (q := 79) dX13_digits_78 rfl ?_
              refine jk_iadd (q := 80) dX13_digits_79 rfl ?_
              refine jk_putIR (q := 83) (k := 13) 20 20 rfl (by first | exact hm.1 | exact hm.2.1 _ _ rfl | assumption) (by first | exact jk_row_same _ _ _ | exact (md_pS_m _ _ _ _ _ _) | exact (md_pS_p _ _ _ _ _ _) | exact ((md_pS_ne _ _ _ _ _ _ (by omega) (by omega)).trans hb) | (rewrite [jk_row_ne _ _ (by omega)]; first | exact jk_row_same _ _ _ | exact (md_pS_m _ _ _ _ _ _) | exact (md_pS_p _ _ _ _ _ _) | exact ((md_pS_ne _ _ _ _ _ _ (by omega) (by omega)).trans hb) | (rewrite [jk_row_ne _ _ (by omega)]; first | exact jk_row_same _ _ _ | exact (md_pS_m _ _ _ _ _ _) | exact (md_pS_p _ _ _ _ _ _) | exact ((md_pS_ne _ _ _ _ _ _ (by omega) (by omega)).trans hb) | (rewrite [jk_row_ne _ _ (by omega)]; first | exact jk_row_same _ _ _ | exact (md_pS_m _ _ _ _ _ _) | exact (md_pS_p _ _ _ _ _ _) | exact ((md_pS_ne _ _ _ _ _ _ (by omega) (by omega)).trans hb) | (rewrite [jk_row_ne _ _ (by omega)]; first | exact (md_pS_m _ _ _ _ _ _) | exact (md_pS_p _ _ _ _ _ _) | exact ((md_pS_ne _ _ _ _ _ _ (by omega) (by omega)).trans hb) | rfl))))) rfl rfl rfl jw_1868 dX13_digits_80 rfl ?_
              rw [md_pS_sp]
              refine jk_iinc3 (q := 86) dX13_digits_83 rfl rfl rfl ?_
              refine jk_goto (q := 34) dX13_digits_86 rfl ?_
              have hin9 := md_inT (by assumption : md_in (md_he Bf ty x.1) 48 57 = true)
              refine ih34 (by omega) (x.1 + 1, 10 * x.2 + md_he Bf ty x.1 - 48) wx hwx (fun hf => ?_) (fun h => absurd (h.symm.trans (by assumption : wx = false)) (by decide)) (by have := hsx; unfold md_sok at *; show 0 ≤ x.1 + 1 ∧ x.1 + 1 ≤ ty; omega)
              rw [← hw hf, show most - k34 = (most - (k34 + 1)) + 1 by omega]
              conv => rhs; unfold md_dl
              rw [if_pos (by assumption)]
      exact L34 0 (Nat.zero_le _) (sp, 0) _ (by simp [*]) (fun _ => rfl) (fun _ => rfl) hs
theorem c_X13_digitsAfter {G : jk_G} {n : Nat} {t : jk_T} {σ : jk_I} {ρ : jk_P} {m : Nat} {O Bf P : Int → Int} {ty sp : Int} {w : Bool} {c : Int} {most : Nat} (hm : md_at t ρ m) (hb : σ (m + 10) = Bf) (hB : ∀ j, 0 ≤ j ∧ j < 60 → 0 ≤ Bf j ∧ Bf j < 65536) (hty : O 7 = ty) (hty2 : 0 ≤ ty ∧ ty ≤ 60) (hs : md_sok ty sp) (hc : 0 ≤ c ∧ c < 65536) (hmost : most ≤ 5) : jk_K G yX13_digitsAfter mX13_digitsAfter 0 0 [.ref m, jI c, jI (most : Int)] n t (md_pS σ m O sp w P) ρ (jk_q (some (jI (md_da Bf ty c most (sp, w)).2)) n t (md_pS σ m O (md_da Bf ty c most (sp, w)).1.1 (md_da Bf ty c most (sp, w)).1.2 P) ρ) jk_no := by
  refine jk_entryB (ls := [some (.ref m), some (jI c), some (jI (most : Int))]) jm_X13_digitsAfter.1 rfl rfl rfl ?_
  obtain ⟨hs1, hs2⟩ := id hs
  have hhe := md_he_bd hB hty2 hs1
  refine jk_aload_n (q := 1) dX13_digitsAfter_0 rfl rfl ?_
  refine jk_iload_n (q := 2) dX13_digitsAfter_1 rfl rfl ?_
  refine jk_cV1v (q := 5) (c_X13_needs hm hb hB hty hty2 hs hc) jm_X13_needs jw_2396 rfl (by first | exact hm.1 | exact hm.2.1 _ _ rfl | assumption) rfl rfl rfl dX13_digitsAfter_2 rfl ?_
  refine jk_aload_n (q := 6) dX13_digitsAfter_5 rfl rfl ?_
  refine jk_iload_n (q := 7) dX13_digitsAfter_6 rfl rfl ?_
  refine jk_cV1p (q := 10) (c_X13_digits hm hb hB hty hty2 (md_nd_ok hB hty2 hc.1 (s := (sp, w)) hs) hmost) jm_X13_digits jw_2404 rfl (by first | exact hm.1 | exact hm.2.1 _ _ rfl | assumption) rfl rfl rfl dX13_digitsAfter_7 rfl ?_
  exact jk_iret rfl dX13_digitsAfter_10 (by exact jk_qr)
theorem c_X13_valueAfter {G : jk_G} {n : Nat} {t : jk_T} {σ : jk_I} {ρ : jk_P} {m : Nat} {O Bf P : Int → Int} {ty sp : Int} {w : Bool} {c : Int} (hm : md_at t ρ m) (hb : σ (m + 10) = Bf) (hB : ∀ j, 0 ≤ j ∧ j < 60 → 0 ≤ Bf j ∧ Bf j < 65536) (hty : O 7 = ty) (hty2 : 0 ≤ ty ∧ ty ≤ 60) (hs : md_sok ty sp) (hc : 0 ≤ c ∧ c < 65536) : jk_K G yX13_valueAfter mX13_valueAfter 0 0 [.ref m, jI c] n t (md_pS σ m O sp w P) ρ (jk_q (some (jI (md_va Bf ty c (sp, w)).2)) n t (md_pS σ m O (md_va Bf ty c (sp, w)).1.1 (md_va Bf ty c (sp, w)).1.2 P) ρ) jk_no := by
  refine jk_entryB (ls := [some (.ref m), some (jI c), none, none]) jm_X13_valueAfter.1 rfl rfl rfl ?_
  obtain ⟨hs1, hs2⟩ := id hs
  have hhe := md_he_bd hB hty2 hs1
  refine jk_aload_n (q := 1) dX13_valueAfter_0 rfl rfl ?_
  refine jk_iload_n (q := 2) dX13_valueAfter_1 rfl rfl ?_
  refine jk_cV1v (q := 5) (c_X13_needs hm hb hB hty hty2 hs hc) jm_X13_needs jw_2396 rfl (by first | exact hm.1 | exact hm.2.1 _ _ rfl | assumption) rfl rfl rfl dX13_valueAfter_2 rfl ?_
  have hs9 := md_nd_ok (Bf := Bf) hB hty2 hc.1 (s := (sp, w)) hs
  have hh9 := md_he_bd (Bf := Bf) hB hty2 hs9.1
  have hsl := md_lo_ok (Bf := Bf) hB hty2 hc.1 (s := (sp, w)) hs
  refine jk_aload_n (q := 6) dX13_valueAfter_5 rfl rfl ?_
  refine jk_getIR (q := 9) (k := 13) 21 21 rfl (by first | exact hm.1 | exact hm.2.1 _ _ rfl | assumption) (by first | exact jk_row_same _ _ _ | exact (md_pS_m _ _ _ _ _ _) | exact (md_pS_p _ _ _ _ _ _) | exact ((md_pS_ne _ _ _ _ _ _ (by omega) (by omega)).trans hb) | (rewrite [jk_row_ne _ _ (by omega)]; first | exact jk_row_same _ _ _ | exact (md_pS_m _ _ _ _ _ _) | exact (md_pS_p _ _ _ _ _ _) | exact ((md_pS_ne _ _ _ _ _ _ (by omega) (by omega)).trans hb) | (rewrite [jk_row_ne _ _ (by omega)]; first | exact jk_row_same _ _ _ | exact (md_pS_m _ _ _ _ _ _) | exact (md_pS_p _ _ _ _ _ _) | exact ((md_pS_ne _ _ _ _ _ _ (by omega) (by omega)).trans hb) | (rewrite [jk_row_ne _ _ (by omega)]; first | exact jk_row_same _ _ _ | exact (md_pS_m _ _ _ _ _ _) | exact (md_pS_p _ _ _ _ _ _) | exact ((md_pS_ne _ _ _ _ _ _ (by omega) (by omega)).trans hb) | (rewrite [jk_row_ne _ _ (by omega)]; first | exact (md_pS_m _ _ _ _ _ _) | exact (md_pS_p _ _ _ _ _ _) | exact ((md_pS_ne _ _ _ _ _ _ (by omega) (by omega)).trans hb) | rfl))))) rfl rfl jw_1869 dX13_valueAfter_6 rfl ?_
  rw [jk_set_at]
  refine jk_ifB_ne (q := 25) (q2 := 12) dX13_valueAfter_9 rfl rfl (fun h1 => ?_) (fun h1 => ?_)
  · refine jk_iconst (q := 26) dX13_valueAfter_25 rfl ?_
    refine jk_istore2 (q := 27) dX13_valueAfter_26 rfl rfl rfl ?_
    refine jk_aload_n (q := 28) dX13_valueAfter_27 rfl rfl ?_
    refine jk_dup (q := 29) dX13_valueAfter_28 rfl rfl ?_
    refine jk_getIR (q := 32) (k := 13) 20 20 rfl (by first | exact hm.1 | exact hm.2.1 _ _ rfl | assumption) (by first | exact jk_row_same _ _ _ | exact (md_pS_m _ _ _ _ _ _) | exact (md_pS_p _ _ _ _ _ _) | exact ((md_pS_ne _ _ _ _ _ _ (by omega) (by omega)).trans hb) | (rewrite [jk_row_ne _ _ (by omega)]; first | exact jk_row_same _ _ _ | exact (md_pS_m _ _ _ _ _ _) | exact (md_pS_p _ _ _ _ _ _) | exact ((md_pS_ne _ _ _ _ _ _ (by omega) (by omega)).trans hb) | (rewrite [jk_row_ne _ _ (by omega)]; first | exact jk_row_same _ _ _ | exact (md_pS_m _ _ _ _ _ _) | exact (md_pS_p _ _ _ _ _ _) | exact ((md_pS_ne _ _ _ _ _ _ (by omega) (by omega)).trans hb) | (rewrite [jk_row_ne _ _ (by omega)]; first | exact jk_row_same _ _ _ | exact (md_pS_m _ _ _ _ _ _) | exact (md_pS_p _ _ _ _ _ _) | exact ((md_pS_ne _ _ _ _ _ _ (by omega) (by omega)).trans hb) | (rewrite [jk_row_ne _ _ (by omega)]; first | exact (md_pS_m _ _ _ _ _ _) | exact (md_pS_p _ _ _ _ _ _) | exact ((md_pS_ne _ _ _ _ _ _ (by omega) (by omega)).trans hb) | rfl))))) rfl rfl jw_1868 dX13_valueAfter_29 rfl ?_
    rw [md_f20]
    refine jk_iload_n (q := 33) dX13_valueAfter_32 rfl rfl ?_
    refine jk_ifT_eq (q := 40) (by decide) (by decide) dX13_valueAfter_33 rfl ?_
    refine jk_iconst (q := 41) dX13_valueAfter_40 rfl ?_
    refine jk_iadd (q := 42) dX13_valueAfter_41 rfl ?_
    refine jk_putIR (q := 45) (k := 13) 20 20 rfl (by first | exact hm.1 | exact hm.2.1 _ _ rfl | assumption) (by first | exact jk_row_same _ _ _ | exact (md_pS_m _ _ _ _ _ _) | exact (md_pS_p _ _ _ _ _ _) | exact ((md_pS_ne _ _ _ _ _ _ (by omega) (by omega)).trans hb) | (rewrite [jk_row_ne _ _ (by omega)]; first | exact jk_row_same _ _ _ | exact (md_pS_m _ _ _ _ _ _) | exact (md_pS_p _ _ _ _ _ _) | exact ((md_pS_ne _ _ _ _ _ _ (by omega) (by omega)).trans hb) | (rewrite [jk_row_ne _ _ (by omega)]; first | exact jk_row_same _ _ _ | exact (md_pS_m _ _ _ _ _ _) | exact (md_pS_p _ _ _ _ _ _) | exact ((md_pS_ne _ _ _ _ _ _ (by omega) (by omega)).trans hb) | (rewrite [jk_row_ne _ _ (by omega)]; first | exact jk_row_same _ _ _ | exact (md_pS_m _ _ _ _ _ _) | exact (md_pS_p _ _ _ _ _ _) | exact ((md_pS_ne _ _ _ _ _ _ (by omega) (by omega)).trans hb) | (rewrite [jk_row_ne _ _ (by omega)]; first | exact (md_pS_m _ _ _ _ _ _) | exact (md_pS_p _ _ _ _ _ _) | exact ((md_pS_ne _ _ _ _ _ _ (by omega) (by omega)).trans hb) | rfl))))) rfl rfl rfl jw_1868 dX13_valueAfter_42 rfl ?_
    rw [md_pS_sp]
    have hlo : md_lo Bf ty c (sp, w) = false := by unfold md_lo; simp [*]
    rw [hlo] at hsl
    refine jk_aload_n (q := 46) dX13_valueAfter_45 rfl rfl ?_
    refine jk_iconst (q := 47) dX13_valueAfter_46 rfl ?_
    refine jk_cV1p (q := 50) (c_X13_digits (most := 5) (w := (md_nd Bf ty c (sp, w)).2) hm hb hB hty hty2 hsl (by decide)) jm_X13_digits jw_2404 rfl (by first | exact hm.1 | exact hm.2.1 _ _ rfl | assumption) rfl rfl rfl dX13_valueAfter_47 rfl ?_
    refine jk_istore3 (q := 51) dX13_valueAfter_50 rfl rfl rfl ?_
    refine jk_iload_n (q := 52) dX13_valueAfter_51 rfl rfl ?_
    refine jk_ifT_eq (q := 60) (by decide) (by decide) dX13_valueAfter_52 rfl ?_
    refine jk_iload_n (q := 61) dX13_valueAfter_60 rfl rfl ?_
    exact jk_iret rfl dX13_valueAfter_61 (by refine ⟨?_, rfl, rfl, ?_, rfl⟩ <;> unfold md_va <;> rw [hlo] <;> rfl)
  · refine jk_aload_n (q := 13) dX13_valueAfter_12 rfl rfl ?_
    refine jk_cV0p (q := 16) (c_X13_here hm hb hB hty hty2 hs9) jm_X13_here jw_2384 rfl (by first | exact hm.1 | exact hm.2.1 _ _ rfl | assumption) rfl rfl rfl dX13_valueAfter_13 rfl ?_
    refine jk_bipush (q := 18) (y := 45) dX13_valueAfter_16 rfl (by decide) ?_
    refine jk_icmp_ne (q := 25) (q2 := 21) dX13_valueAfter_18 rfl rfl (by first | decide | omega | exact jB_01 _) (by first | decide | omega | exact jB_01 _) (fun h2 => ?_) (fun h2 => ?_)
    · refine jk_iconst (q := 26) dX13_valueAfter_25 rfl ?_
      refine jk_istore2 (q := 27) dX13_valueAfter_26 rfl rfl rfl ?_
      refine jk_aload_n (q := 28) dX13_valueAfter_27 rfl rfl ?_
      refine jk_dup (q := 29) dX13_valueAfter_28 rfl rfl ?_
      refine jk_getIR (q := 32) (k := 13) 20 20 rfl (by first | exact hm.1 | exact hm.2.1 _ _ rfl | assumption) (by first | exact jk_row_same _ _ _ | exact (md_pS_m _ _ _ _ _ _) | exact (md_pS_p _ _ _ _ _ _) | exact ((md_pS_ne _ _ _ _ _ _ (by omega) (by omega)).trans hb) | (rewrite [jk_row_ne _ _ (by omega)]; first | exact jk_row_same _ _ _ | exact (md_pS_m _ _ _ _ _ _) | exact (md_pS_p _ _ _ _ _ _) | exact ((md_pS_ne _ _ _ _ _ _ (by omega) (by omega)).trans hb) | (rewrite [jk_row_ne _ _ (by omega)]; first | exact jk_row_same _ _ _ | exact (md_pS_m _ _ _ _ _ _) | exact (md_pS_p _ _ _ _ _ _) | exact ((md_pS_ne _ _ _ _ _ _ (by omega) (by omega)).trans hb) | (rewrite [jk_row_ne _ _ (by omega)]; first | exact jk_row_same _ _ _ | exact (md_pS_m _ _ _ _ _ _) | exact (md_pS_p _ _ _ _ _ _) | exact ((md_pS_ne _ _ _ _ _ _ (by omega) (by omega)).trans hb) | (rewrite [jk_row_ne _ _ (by omega)]; first | exact (md_pS_m _ _ _ _ _ _) | exact (md_pS_p _ _ _ _ _ _) | exact ((md_pS_ne _ _ _ _ _ _ (by omega) (by omega)).trans hb) | rfl))))) rfl rfl jw_1868 dX13_valueAfter_29 rfl ?_
      rw [md_f20]
      refine jk_iload_n (q := 33) dX13_valueAfter_32 rfl rfl ?_
      refine jk_ifT_eq (q := 40) (by decide) (by decide) dX13_valueAfter_33 rfl ?_
      refine jk_iconst (q := 41) dX13_valueAfter_40 rfl ?_
      refine jk_iadd (q := 42) dX13_valueAfter_41 rfl ?_
      refine jk_putIR (q := 45) (k := 13) 20 20 rfl (by first | exact hm.1 | exact hm.2.1 _ _ rfl | assumption) (by first | exact jk_row_same _ _ _ | exact (md_pS_m _ _ _ _ _ _) | exact (md_pS_p _ _ _ _ _ _) | exact ((md_pS_ne _ _ _ _ _ _ (by omega) (by omega)).trans hb) | (rewrite [jk_row_ne _ _ (by omega)]; first | exact jk_row_same _ _ _ | exact (md_pS_m _ _ _ _ _ _) | exact (md_pS_p _ _ _ _ _ _) | exact ((md_pS_ne _ _ _ _ _ _ (by omega) (by omega)).trans hb) | (rewrite [jk_row_ne _ _ (by omega)]; first | exact jk_row_same _ _ _ | exact (md_pS_m _ _ _ _ _ _) | exact (md_pS_p _ _ _ _ _ _) | exact ((md_pS_ne _ _ _ _ _ _ (by omega) (by omega)).trans hb) | (rewrite [jk_row_ne _ _ (by omega)]; first | exact jk_row_same _ _ _ | exact (md_pS_m _ _ _ _ _ _) | exact (md_pS_p _ _ _ _ _ _) | exact ((md_pS_ne _ _ _ _ _ _ (by omega) (by omega)).trans hb) | (rewrite [jk_row_ne _ _ (by omega)]; first | exact (md_pS_m _ _ _ _ _ _) | exact (md_pS_p _ _ _ _ _ _) | exact ((md_pS_ne _ _ _ _ _ _ (by omega) (by omega)).trans hb) | rfl))))) rfl rfl rfl jw_1868 dX13_valueAfter_42 rfl ?_
      rw [md_pS_sp]
      have hlo : md_lo Bf ty c (sp, w) = false := by unfold md_lo; simp [*]
      rw [hlo] at hsl
      refine jk_aload_n (q := 46) dX13_valueAfter_45 rfl rfl ?_
      refine jk_iconst (q := 47) dX13_valueAfter_46 rfl ?_
      refine jk_cV1p (q := 50) (c_X13_digits (most := 5) (w := (md_nd Bf ty c (sp, w)).2) hm hb hB hty hty2 hsl (by decide)) jm_X13_digits jw_2404 rfl (by first | exact hm.1 | exact hm.2.1 _ _ rfl | assumption) rfl rfl rfl dX13_valueAfter_47 rfl ?_
      refine jk_istore3 (q := 51) dX13_valueAfter_50 rfl rfl rfl ?_
      refine jk_iload_n (q := 52) dX13_valueAfter_51 rfl rfl ?_
      refine jk_ifT_eq (q := 60) (by decide) (by decide) dX13_valueAfter_52 rfl ?_
      refine jk_iload_n (q := 61) dX13_valueAfter_60 rfl rfl ?_
      exact jk_iret rfl dX13_valueAfter_61 (by refine ⟨?_, rfl, rfl, ?_, rfl⟩ <;> unfold md_va <;> rw [hlo] <;> rfl)
    · refine jk_iconst (q := 22) dX13_valueAfter_21 rfl ?_
      refine jk_goto (q := 26) dX13_valueAfter_22 rfl ?_
      refine jk_istore2 (q := 27) dX13_valueAfter_26 rfl rfl rfl ?_
      refine jk_aload_n (q := 28) dX13_valueAfter_27 rfl rfl ?_
      refine jk_dup (q := 29) dX13_valueAfter_28 rfl rfl ?_
      refine jk_getIR (q := 32) (k := 13) 20 20 rfl (by first | exact hm.1 | exact hm.2.1 _ _ rfl | assumption) (by first | exact jk_row_same _ _ _ | exact (md_pS_m _ _ _ _ _ _) | exact (md_pS_p _ _ _ _ _ _) | exact ((md_pS_ne _ _ _ _ _ _ (by omega) (by omega)).trans hb) | (rewrite [jk_row_ne _ _ (by omega)]; first | exact jk_row_same _ _ _ | exact (md_pS_m _ _ _ _ _ _) | exact (md_pS_p _ _ _ _ _ _) | exact ((md_pS_ne _ _ _ _ _ _ (by omega) (by omega)).trans hb) | (rewrite [jk_row_ne _ _ (by omega)]; first | exact jk_row_same _ _ _ | exact (md_pS_m _ _ _ _ _ _) | exact (md_pS_p _ _ _ _ _ _) | exact ((md_pS_ne _ _ _ _ _ _ (by omega) (by omega)).trans hb) | (rewrite [jk_row_ne _ _ (by omega)]; first | exact jk_row_same _ _ _ | exact (md_pS_m _ _ _ _ _ _) | exact (md_pS_p _ _ _ _ _ _) | exact ((md_pS_ne _ _ _ _ _ _ (by omega) (by omega)).trans hb) | (rewrite [jk_row_ne _ _ (by omega)]; first | exact (md_pS_m _ _ _ _ _ _) | exact (md_pS_p _ _ _ _ _ _) | exact ((md_pS_ne _ _ _ _ _ _ (by omega) (by omega)).trans hb) | rfl))))) rfl rfl jw_1868 dX13_valueAfter_29 rfl ?_
      rw [md_f20]
      refine jk_iload_n (q := 33) dX13_valueAfter_32 rfl rfl ?_
      refine jk_ifN_eq (q := 36) (by decide) (by decide) dX13_valueAfter_33 rfl rfl ?_
      refine jk_iconst (q := 37) dX13_valueAfter_36 rfl ?_
      refine jk_goto (q := 41) dX13_valueAfter_37 rfl ?_
      refine jk_iadd (q := 42) dX13_valueAfter_41 rfl ?_
      refine jk_putIR (q := 45) (k := 13) 20 20 rfl (by first | exact hm.1 | exact hm.2.1 _ _ rfl | assumption) (by first | exact jk_row_same _ _ _ | exact (md_pS_m _ _ _ _ _ _) | exact (md_pS_p _ _ _ _ _ _) | exact ((md_pS_ne _ _ _ _ _ _ (by omega) (by omega)).trans hb) | (rewrite [jk_row_ne _ _ (by omega)]; first | exact jk_row_same _ _ _ | exact (md_pS_m _ _ _ _ _ _) | exact (md_pS_p _ _ _ _ _ _) | exact ((md_pS_ne _ _ _ _ _ _ (by omega) (by omega)).trans hb) | (rewrite [jk_row_ne _ _ (by omega)]; first | exact jk_row_same _ _ _ | exact (md_pS_m _ _ _ _ _ _) | exact (md_pS_p _ _ _ _ _ _) | exact ((md_pS_ne _ _ _ _ _ _ (by omega) (by omega)).trans hb) | (rewrite [jk_row_ne _ _ (by omega)]; first | exact jk_row_same _ _ _ | exact (md_pS_m _ _ _ _ _ _) | exact (md_pS_p _ _ _ _ _ _) | exact ((md_pS_ne _ _ _ _ _ _ (by omega) (by omega)).trans hb) | (rewrite [jk_row_ne _ _ (by omega)]; first | exact (md_pS_m _ _ _ _ _ _) | exact (md_pS_p _ _ _ _ _ _) | exact ((md_pS_ne _ _ _ _ _ _ (by omega) (by omega)).trans hb) | rfl))))) rfl rfl rfl jw_1868 dX13_valueAfter_42 rfl ?_
      rw [md_pS_sp]
      have hlo : md_lo Bf ty c (sp, w) = true := by unfold md_lo; simp [*]
      rw [hlo] at hsl
      refine jk_aload_n (q := 46) dX13_valueAfter_45 rfl rfl ?_
      refine jk_iconst (q := 47) dX13_valueAfter_46 rfl ?_
      refine jk_cV1p (q := 50) (c_X13_digits (most := 5) (w := (md_nd Bf ty c (sp, w)).2) hm hb hB hty hty2 hsl (by decide)) jm_X13_digits jw_2404 rfl (by first | exact hm.1 | exact hm.2.1 _ _ rfl | assumption) rfl rfl rfl dX13_valueAfter_47 rfl ?_
      refine jk_istore3 (q := 51) dX13_valueAfter_50 rfl rfl rfl ?_
      refine jk_iload_n (q := 52) dX13_valueAfter_51 rfl rfl ?_
      refine jk_ifN_eq (q := 55) (by decide) (by decide) dX13_valueAfter_52 rfl rfl ?_
      refine jk_iload_n (q := 56) dX13_valueAfter_55 rfl rfl ?_
      refine jk_ineg (q := 57) dX13_valueAfter_56 rfl ?_
      refine jk_goto (q := 61) dX13_valueAfter_57 rfl ?_
      exact jk_iret rfl dX13_valueAfter_61 (by refine ⟨?_, rfl, rfl, ?_, rfl⟩ <;> unfold md_va <;> rw [hlo] <;> rfl)
end MD22
