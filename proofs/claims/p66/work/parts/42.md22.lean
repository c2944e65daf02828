section MD22
/-- the heap with the parser's place sp, its flag w and the commands P -/
def md_pS (σ : jk_I) (m : Nat) (O : Int → Int) (sp : Int) (w : Bool) (P : Int → Int) : jk_I := jk_row (jk_row σ (m + 28) P) m (jk_set (jk_set O 20 sp) 21 (jB w))
theorem md_pS_m (σ : jk_I) (m : Nat) (O : Int → Int) (sp : Int) (w : Bool) (P : Int → Int) : md_pS σ m O sp w P m = jk_set (jk_set O 20 sp) 21 (jB w) := jk_row_same _ _ _
theorem md_pS_p (σ : jk_I) (m : Nat) (O : Int → Int) (sp : Int) (w : Bool) (P : Int → Int) : md_pS σ m O sp w P (m + 28) = P := by unfold md_pS; rw [jk_row_ne _ _ (by omega), jk_row_same]
theorem md_pS_ne (σ : jk_I) (m : Nat) (O : Int → Int) (sp : Int) (w : Bool) (P : Int → Int) {a : Nat} (h1 : a ≠ m) (h2 : a ≠ m + 28) : md_pS σ m O sp w P a = σ a := by unfold md_pS; rw [jk_row_ne _ _ h1, jk_row_ne _ _ h2]
theorem md_pS_sp (σ : jk_I) (m : Nat) (O : Int → Int) (sp : Int) (w : Bool) (P : Int → Int) (c : Int) : jk_row (md_pS σ m O sp w P) m (jk_set (jk_set (jk_set O 20 sp) 21 (jB w)) 20 c) = md_pS σ m O c w P := by
  unfold md_pS
  rw [jk_row_row]
  congr 1
  funext j
  unfold jk_set
  by_cases h1 : j = 20
  · subst h1; simp
  · simp [h1]
theorem md_pS_w (σ : jk_I) (m : Nat) (O : Int → Int) (sp : Int) (w w2 : Bool) (P : Int → Int) : jk_row (md_pS σ m O sp w P) m (jk_set (jk_set (jk_set O 20 sp) 21 (jB w)) 21 (jB w2)) = md_pS σ m O sp w2 P := by
  unfold md_pS; rw [jk_row_row, jk_set_set]
theorem md_pS_P (σ : jk_I) (m : Nat) (O : Int → Int) (sp : Int) (w : Bool) (P X : Int → Int) : jk_row (md_pS σ m O sp w P) (m + 28) X = md_pS σ m O sp w X := by
  unfold md_pS; rw [jk_row_comm _ _ _ (by omega), jk_row_row]
theorem md_f20 (O : Int → Int) (a b : Int) : jk_set (jk_set O 20 a) 21 b 20 = a := by rw [jk_set_ne _ _ (by decide), jk_set_at]
theorem md_f7 (O : Int → Int) (a b : Int) : jk_set (jk_set O 20 a) 21 b 7 = O 7 := by rw [jk_set_ne _ _ (by decide), jk_set_ne _ _ (by decide)]
def md_he (Bf : Int → Int) (ty sp : Int) : Int := if sp < ty then Bf sp else -1
abbrev md_PS : Type := Int × Bool
def md_nd (Bf : Int → Int) (ty c : Int) (s : md_PS) : md_PS := (if (s.2 || decide (md_he Bf ty s.1 ≠ c)) = true then s.1 else s.1 + 1, s.2 || decide (md_he Bf ty s.1 ≠ c))
def md_n3 (Bf : Int → Int) (ty a b c : Int) (s : md_PS) : md_PS := md_nd Bf ty c (md_nd Bf ty b (md_nd Bf ty a s))
def md_dl (Bf : Int → Int) (ty : Int) : Nat → Int × Int → Int × Int
  | 0, x => x
  | f + 1, x => if md_in (md_he Bf ty x.1) 48 57 = true then md_dl Bf ty f (x.1 + 1, 10 * x.2 + md_he Bf ty x.1 - 48) else x
def md_di (Bf : Int → Int) (ty : Int) (most : Nat) (s : md_PS) : md_PS × Int :=
  if (s.2 || !md_in (md_he Bf ty s.1) 48 57) = true then ((s.1, true), 0) else (((md_dl Bf ty most (s.1, 0)).1, false), (md_dl Bf ty most (s.1, 0)).2)
def md_da (Bf : Int → Int) (ty c : Int) (most : Nat) (s : md_PS) : md_PS × Int := md_di Bf ty most (md_nd Bf ty c s)
def md_lo (Bf : Int → Int) (ty c : Int) (s : md_PS) : Bool := !(md_nd Bf ty c s).2 && decide (md_he Bf ty (md_nd Bf ty c s).1 = 45)
def md_va (Bf : Int → Int) (ty c : Int) (s : md_PS) : md_PS × Int :=
  ((md_di Bf ty 5 ((md_nd Bf ty c s).1 + jB (md_lo Bf ty c s), (md_nd Bf ty c s).2)).1, if md_lo Bf ty c s = true then -(md_di Bf ty 5 ((md_nd Bf ty c s).1 + jB (md_lo Bf ty c s), (md_nd Bf ty c s).2)).2 else (md_di Bf ty 5 ((md_nd Bf ty c s).1 + jB (md_lo Bf ty c s), (md_nd Bf ty c s).2)).2)
/-- the place lies in the text or at its end -/
def md_sok (ty : Int) (sp : Int) : Prop := 0 ≤ sp ∧ sp ≤ ty
theorem md_he_bd {Bf : Int → Int} {ty sp : Int} (hB : ∀ j, 0 ≤ j ∧ j < 60 → 0 ≤ Bf j ∧ Bf j < 65536) (hty : 0 ≤ ty ∧ ty ≤ 60) (hs : 0 ≤ sp) : -1 ≤ md_he Bf ty sp ∧ md_he Bf ty sp < 65536 ∧ (0 ≤ md_he Bf ty sp → sp < ty) := by
  unfold md_he
  split
  · have := hB sp ⟨hs, by omega⟩; exact ⟨by omega, by omega, fun _ => by assumption⟩
  · exact ⟨by omega, by omega, fun h => absurd h (by decide)⟩
theorem md_nd_ok {Bf : Int → Int} {ty c : Int} (hB : ∀ j, 0 ≤ j ∧ j < 60 → 0 ≤ Bf j ∧ Bf j < 65536) (hty : 0 ≤ ty ∧ ty ≤ 60) (hc : 0 ≤ c) {s : md_PS} (hs : md_sok ty s.1) : md_sok ty (md_nd Bf ty c s).1 := by
  have h := md_he_bd hB hty hs.1
  unfold md_nd md_sok at *
  dsimp only
  split
  · exact hs
  · rename_i h2
    have : md_he Bf ty s.1 = c := by
      simp at h2; exact h2.2
    omega
theorem md_dl_ok {Bf : Int → Int} {ty : Int} (hB : ∀ j, 0 ≤ j ∧ j < 60 → 0 ≤ Bf j ∧ Bf j < 65536) (hty : 0 ≤ ty ∧ ty ≤ 60) : ∀ (f : Nat) (x : Int × Int), md_sok ty x.1 → md_sok ty (md_dl Bf ty f x).1
  | 0, _, h => h
  | f + 1, x, h => by
    unfold md_dl
    split
    · rename_i h2
      have h3 := md_inT h2
      have h4 := md_he_bd hB hty h.1
      unfold md_sok at h
      exact md_dl_ok hB hty f _ (by show 0 ≤ x.1 + 1 ∧ x.1 + 1 ≤ ty; omega)
    · exact h
theorem md_di_ok {Bf : Int → Int} {ty : Int} (hB : ∀ j, 0 ≤ j ∧ j < 60 → 0 ≤ Bf j ∧ Bf j < 65536) (hty : 0 ≤ ty ∧ ty ≤ 60) {most : Nat} {s : md_PS} (hs : md_sok ty s.1) : md_sok ty (md_di Bf ty most s).1.1 := by
  unfold md_di
  split
  · exact hs
  · exact md_dl_ok hB hty most (s.1, 0) hs
theorem md_lo_ok {Bf : Int → Int} {ty c : Int} (hB : ∀ j, 0 ≤ j ∧ j < 60 → 0 ≤ Bf j ∧ Bf j < 65536) (hty : 0 ≤ ty ∧ ty ≤ 60) (hc : 0 ≤ c) {s : md_PS} (hs : md_sok ty s.1) : md_sok ty ((md_nd Bf ty c s).1 + jB (md_lo Bf ty c s)) := by
  have h1 := md_nd_ok hB hty hc hs
  have h2 := md_he_bd (Bf := Bf) hB hty h1.1
  unfold md_sok at *
  cases h3 : md_lo Bf ty c s
  · rw [jB_f]; omega
  · rw [jB_t]
    unfold md_lo at h3
    simp at h3
    omega
theorem md_di_end {Bf : Int → Int} {ty sp : Int} {w wx : Bool} {most k : Nat} {x : Int × Int} (hwx : (w || !md_in (md_he Bf ty sp) 48 57) = wx) (h1 : wx = false → md_dl Bf ty (most - k) x = md_dl Bf ty most (sp, 0)) (h2 : wx = true → x = (sp, 0)) (he : wx = true ∨ most - k = 0 ∨ md_in (md_he Bf ty x.1) 48 57 = false) : md_di Bf ty most (sp, w) = ((x.1, wx), x.2) := by
  unfold md_di
  cases wx
  · rw [if_neg (by show ¬ (w || !md_in (md_he Bf ty sp) 48 57) = true; rw [hwx]; decide)]
    show ((( md_dl Bf ty most (sp, 0)).1, false), (md_dl Bf ty most (sp, 0)).2) = _
    rw [← h1 rfl]
    have e : md_dl Bf ty (most - k) x = x := by
      rcases he with h | h | h
      · exact absurd h (by decide)
      · rw [h]; rfl
      · match most - k with
        | 0 => rfl
        | f + 1 => unfold md_dl; rw [if_neg (by rw [h]; decide)]
    rw [e]
  · rw [if_pos (show (w || !md_in (md_he Bf ty sp) 48 57) = true from hwx), h2 rfl]
end MD22
