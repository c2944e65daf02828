section MD20
def md_p10 : Nat → Int
  | 0 => 1
  | j + 1 => 10 * md_p10 j
theorem md_p10_bd (j : Nat) (h : j ≤ 7) : 1 ≤ md_p10 j ∧ md_p10 j ≤ 10000000 := by
  have key : ∀ j : Fin 8, 1 ≤ md_p10 j.val ∧ md_p10 j.val ≤ 10000000 := by decide
  exact key ⟨j, by omega⟩
/-- the number of the first digit's place -/
def md_top : Nat → Int → Nat
  | 0, _ => 0
  | j + 1, n => if n < md_p10 (j + 1) then md_top j n else j + 1
theorem md_top_le : ∀ (j : Nat) (n : Int), md_top j n ≤ j
  | 0, _ => Nat.le_refl _
  | j + 1, n => by unfold md_top; split; exact Nat.le_succ_of_le (md_top_le j n); exact Nat.le_refl _
def md_dg : Nat → Int → List Int
  | 0, _ => []
  | k + 1, n => (48 + n / md_p10 k % 10) :: md_dg k n
/-- a number's signs -/
def md_dgs (v : Int) : List Int := (if v < 0 then [45] else []) ++ md_dg (md_top 7 (md_abs v) + 1) (md_abs v)
def md_wr (s : (Int → Int) × Int) (c : Int) : (Int → Int) × Int := (jk_set s.1 s.2 c, s.2 + 1)
def md_wls (s : (Int → Int) × Int) (l : List Int) : (Int → Int) × Int := l.foldl md_wr s
theorem md_wls_len : ∀ (l : List Int) (s : (Int → Int) × Int), (md_wls s l).2 = s.2 + (l.length : Int)
  | [], s => by show s.2 = s.2 + 0; omega
  | c :: l, s => by
    show (md_wls (md_wr s c) l).2 = _
    rw [md_wls_len l (md_wr s c)]
    show s.2 + 1 + (l.length : Int) = s.2 + ((l.length + 1 : Nat) : Int)
    omega
theorem md_dg_len : ∀ (k : Nat) (n : Int), (md_dg k n).length = k
  | 0, _ => rfl
  | k + 1, n => by show (md_dg k n).length + 1 = k + 1; rw [md_dg_len k n]
theorem md_dgs_len (v : Int) : 1 ≤ (md_dgs v).length ∧ (md_dgs v).length ≤ 9 := by
  have := md_top_le 7 (md_abs v)
  unfold md_dgs
  rw [List.length_append, md_dg_len]
  split <;> simp <;> omega
/-- the heap with the output s -/
def md_wS (σ : jk_I) (m : Nat) (O : Int → Int) (s : (Int → Int) × Int) : jk_I := jk_row (jk_row σ (m + 12) s.1) m (jk_set O 11 s.2)
theorem md_wS_S (σ : jk_I) (m : Nat) (O : Int → Int) (s s2 : (Int → Int) × Int) : jk_row (jk_row (md_wS σ m O s) (m + 12) s2.1) m (jk_set (jk_set O 11 s.2) 11 s2.2) = md_wS σ m O s2 := by
  unfold md_wS
  rw [jk_rr _ _ _ _ _ (by omega), jk_set_set]
theorem md_wS_at (σ : jk_I) (m : Nat) (O : Int → Int) (s : (Int → Int) × Int) : md_wS σ m O s m = jk_set O 11 s.2 ∧ md_wS σ m O s (m + 12) = s.1 ∧ ∀ a, a ≠ m → a ≠ m + 12 → md_wS σ m O s a = σ a := by
  unfold md_wS
  exact ⟨jk_row_same _ _ _, by rw [jk_row_ne _ _ (by omega), jk_row_same], fun a h1 h2 => by rw [jk_row_ne _ _ h1, jk_row_ne _ _ h2]⟩
def md_u : Nat → Int
  | 0 => 0
  | k + 1 => md_p10 k
theorem md_u_div (k : Nat) : md_u (k + 1) / 10 = md_u k := by
  match k with
  | 0 => rfl
  | k + 1 => show 10 * md_p10 k / 10 = md_p10 k; omega
theorem md_u_z {k : Nat} (h8 : k ≤ 8) (h : md_u k ≤ 0) : k = 0 := by
  match k with
  | 0 => rfl
  | k + 1 => exfalso; have := md_p10_bd k (by omega); have e : md_u (k + 1) = md_p10 k := rfl; omega
theorem md_topE {k : Nat} {e : Int} (h0 : k ≤ 7) (ht : md_top k e = md_top 7 e) (h : md_p10 k ≤ 1 ∨ md_p10 k ≤ e) : md_top 7 e = k := by
  rw [← ht]
  match k with
  | 0 => rfl
  | k + 1 =>
    have h1 := md_p10_bd k (by omega)
    have e1 : md_p10 (k + 1) = 10 * md_p10 k := rfl
    unfold md_top
    rw [if_neg (by omega)]
end MD20
