section MD12
def md_rok (r : md_R3) : Prop := (0 ≤ r.1 ∧ r.1 ≤ 3) ∧ md_zf 240 r.2.2
theorem md_rok0 : (0 : Int) ≤ 0 ∧ (0 : Int) ≤ 3 := by decide
theorem md_rok_f {g : Int → Int} (hz : md_zf 240 g) {k : Int} (hk : 0 ≤ k ∧ k ≤ 3) : md_rok (k, 0, g) := ⟨hk, hz⟩
theorem md_addsPoint_ok {B : Int} {g : Int → Int} (hi : md_inv B g) (hz : md_zf 240 g) : md_rok (md_addsPoint g) := by
  obtain ⟨i0, i1, i2, i3, -⟩ := id hi
  unfold md_addsPoint
  split
  · exact md_rok_f hz (by decide)
  · exact ⟨md_rok0, md_zf_set hz (by omega)⟩
theorem md_fixes_ok {B : Int} {g : Int → Int} (hi : md_inv B g) (hz : md_zf 240 g) {p v : Int} : md_rok (md_fixes g p v) := by
  obtain ⟨i0, i1, i2, i3, -⟩ := id hi
  unfold md_fixes
  split
  · exact md_rok_f hz (by decide)
  rename_i hp
  have hp2 := md_inT (by simpa using hp : md_in p 0 (g 0 - 1) = true)
  split
  · exact md_rok_f hz (by decide)
  · exact ⟨md_rok0, md_zf_set (md_zf_set hz (by omega)) (by omega)⟩
theorem md_releases_ok {B : Int} {g : Int → Int} (hi : md_inv B g) (hz : md_zf 240 g) {p : Int} : md_rok (md_releases g p) := by
  obtain ⟨i0, i1, i2, i3, -⟩ := id hi
  unfold md_releases
  split
  · exact md_rok_f hz (by decide)
  rename_i hp
  have hp2 := md_inT (by simpa using hp : md_in p 0 (g 0 - 1) = true)
  split
  · exact md_rok_f hz (by decide)
  · exact ⟨md_rok0, md_zf_set hz (by omega)⟩
theorem md_addsLine_ok {B : Int} {g : Int → Int} (hi : md_inv B g) (hz : md_zf 240 g) {a b f len : Int} : md_rok (md_addsLine g a b f len) := by
  obtain ⟨i0, i1, i2, i3, -⟩ := id hi
  unfold md_addsLine
  split
  · exact md_rok_f hz (by decide)
  split
  · exact md_rok_f hz (by decide)
  split
  · exact md_rok_f hz (by decide)
  · exact ⟨md_rok0, md_zf_set (md_zf_set (md_zf_set (md_zf_set (md_zf_set hz (by omega)) (by omega)) (by omega)) (by omega)) (by omega)⟩
theorem md_addsRun_ok {B : Int} {g : Int → Int} (hi : md_inv B g) (hz : md_zf 240 g) {l b : Int} : md_rok (md_addsRun g l b) := by
  obtain ⟨i0, i1, i2, i3, -⟩ := id hi
  unfold md_addsRun
  split
  · exact md_rok_f hz (by decide)
  rename_i hp
  have hp2 := md_inT (by simpa using hp : md_in l 0 (g 1 - 1) = true)
  split
  · exact md_rok_f hz (by decide)
  split
  · exact md_rok_f hz (by decide)
  · exact ⟨md_rok0, md_zf_set (md_zf_set hz (by omega)) (by omega)⟩
theorem md_marks_ok {B : Int} {g : Int → Int} (hi : md_inv B g) (hz : md_zf 240 g) {l w : Int} : md_rok (md_marks g l w) := by
  obtain ⟨i0, i1, i2, i3, -⟩ := id hi
  unfold md_marks
  split
  · exact md_rok_f hz (by decide)
  rename_i hp
  have hp2 := md_inT (by simpa using hp : md_in l 0 (g 1 - 1) = true)
  split
  · exact md_rok_f hz (by decide)
  · exact ⟨md_rok0, md_zf_set hz (by omega)⟩
theorem md_resets_ok {B : Int} {g : Int → Int} (hi : md_inv B g) (hz : md_zf 240 g) : md_rok (md_resets g) := by
  obtain ⟨i0, i1, i2, i3, -⟩ := id hi
  unfold md_resets
  refine ⟨md_rok0, fun p hp => ?_⟩
  show md_clr g (g 1) p = 0
  unfold md_clr
  rw [if_neg (by omega)]; exact hz p hp
theorem md_addsProfile_ok {B : Int} {g : Int → Int} (hi : md_inv B g) (hz : md_zf 240 g) {p : Int} : md_rok (md_addsProfile g p) := by
  obtain ⟨i0, i1, i2, i3, -⟩ := id hi
  unfold md_addsProfile
  split
  · exact md_rok_f hz (by decide)
  split
  · exact md_rok_f hz (by decide)
  · exact ⟨md_rok0, md_zf_set (md_zf_set hz (by omega)) (by omega)⟩
theorem md_addsStation_ok {B : Int} {g : Int → Int} (hi : md_inv B g) (hz : md_zf 240 g) {q d f : Int} : md_rok (md_addsStation g q d f) := by
  obtain ⟨i0, i1, i2, i3, -⟩ := id hi
  unfold md_addsStation
  split
  · exact md_rok_f hz (by decide)
  rename_i hp
  have hp2 := md_inT (by simpa using hp : md_in q 0 (g 2 - 1) = true)
  obtain ⟨s1, -⟩ := hi.2.2.2.2.2.2.2.1 q ⟨by omega, by omega⟩
  split
  · exact md_rok_f hz (by decide)
  split
  · exact md_rok_f hz (by decide)
  · exact ⟨md_rok0, md_zf_set (md_zf_set (md_zf_set hz (by omega)) (by omega)) (by omega)⟩
theorem md_setsWater_ok {B : Int} {g : Int → Int} (hi : md_inv B g) (hz : md_zf 240 g) {w : Int} : md_rok (md_setsWater g w) := by
  obtain ⟨i0, i1, i2, i3, -⟩ := id hi
  unfold md_setsWater
  split
  · exact md_rok_f hz (by decide)
  · exact ⟨md_rok0, md_zf_set hz (by omega)⟩
theorem md_shares_ok {B : Int} {g : Int → Int} (hi : md_inv B g) (hz : md_zf 240 g) {l : Int} : md_rok (md_shares g l) := by
  obtain ⟨i0, i1, i2, i3, -⟩ := id hi
  have hw := md_why_bd g l
  unfold md_shares
  split
  · exact md_rok_f hz ⟨by omega, by omega⟩
  · split
    · exact md_rok_f hz (by decide)
    · refine ⟨md_rok0, fun p hp => ?_⟩
      show md_shk g _ _ _ (g 1) p = 0
      unfold md_shk
      rw [if_neg (by omega)]; exact hz p hp
/-- the heap behind a public change: s the heap in which the change itself began -/
def md_pub (σ : jk_I) (m : Nat) (O h g : Int → Int) (r : md_R3) : jk_I := md_kp (md_res σ m O r) m (jk_set O 12 r.1) h g
def md_pubV (r : md_R3) : Int := if r.1 = 0 then r.2.1 else 0
theorem md_shS_ne (σ : jk_I) (m : Nat) (g : Int → Int) (l : Int) {a : Nat} (h : a ≠ m + 14 ∧ a ≠ m + 16 ∧ a ≠ m + 18 ∧ a ≠ m + 20 ∧ a ≠ m + 22 ∧ a ≠ m + 26 ∧ a ≠ m + 24) : md_shS σ m g l a = σ a := by
  have h6 : a ≠ m + 14 ∧ a ≠ m + 16 ∧ a ≠ m + 18 ∧ a ≠ m + 20 ∧ a ≠ m + 22 ∧ a ≠ m + 26 := ⟨h.1, h.2.1, h.2.2.1, h.2.2.2.1, h.2.2.2.2.1, h.2.2.2.2.2.1⟩
  unfold md_shS
  split
  · exact md_whyS_ne _ _ _ _ h6
  · split
    · exact md_lp_ne _ _ _ _ h6
    · rw [jk_row_ne _ _ h.2.2.2.2.2.2]; exact md_lp_ne _ _ _ _ h6
theorem md_z_row {σ : jk_I} {m : Nat} (h : md_z σ m) {a : Nat} (x : Int → Int) (ha : a ≠ m + 14 ∧ a ≠ m + 22 ∧ a ≠ m + 24) : md_z (jk_row σ a x) m := fun p hp => by
  rw [jk_row_ne _ _ (Ne.symm ha.1), jk_row_ne _ _ (Ne.symm ha.2.1), jk_row_ne _ _ (Ne.symm ha.2.2)]; exact h p hp
theorem md_z10_row {σ : jk_I} {m : Nat} (h : md_z10 σ m) {a : Nat} (x : Int → Int) (ha : a ≠ m + 16 ∧ a ≠ m + 18 ∧ a ≠ m + 20 ∧ a ≠ m + 26) : md_z10 (jk_row σ a x) m := fun p hp => by
  rw [jk_row_ne _ _ (Ne.symm ha.1), jk_row_ne _ _ (Ne.symm ha.2.1), jk_row_ne _ _ (Ne.symm ha.2.2.1), jk_row_ne _ _ (Ne.symm ha.2.2.2)]; exact h p hp
end MD12
