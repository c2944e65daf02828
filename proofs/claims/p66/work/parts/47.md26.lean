section MD26
theorem md_nd_ge (Bf : Int → Int) (ty c : Int) (s : md_PS) : s.1 ≤ (md_nd Bf ty c s).1 := by unfold md_nd; dsimp only; split <;> omega
theorem md_n3_ge (Bf : Int → Int) (ty a b c : Int) (s : md_PS) : s.1 ≤ (md_n3 Bf ty a b c s).1 := Int.le_trans (md_nd_ge Bf ty a s) (Int.le_trans (md_nd_ge Bf ty b _) (md_nd_ge Bf ty c _))
theorem md_dl_ge (Bf : Int → Int) (ty : Int) : ∀ (f : Nat) (x : Int × Int), x.1 ≤ (md_dl Bf ty f x).1
  | 0, x => Int.le_refl _
  | f + 1, x => by
    unfold md_dl
    split
    · have := md_dl_ge Bf ty f (x.1 + 1, 10 * x.2 + md_he Bf ty x.1 - 48)
      dsimp only at this
      omega
    · exact Int.le_refl _
theorem md_di_ge (Bf : Int → Int) (ty : Int) (most : Nat) (s : md_PS) : s.1 ≤ (md_di Bf ty most s).1.1 := by
  unfold md_di
  split
  · exact Int.le_refl _
  · exact md_dl_ge Bf ty most (s.1, 0)
theorem md_da_ge (Bf : Int → Int) (ty c : Int) (most : Nat) (s : md_PS) : s.1 ≤ (md_da Bf ty c most s).1.1 := Int.le_trans (md_nd_ge Bf ty c s) (md_di_ge Bf ty most _)
theorem md_va_ge (Bf : Int → Int) (ty c : Int) (s : md_PS) : s.1 ≤ (md_va Bf ty c s).1.1 := by
  have h := md_di_ge Bf ty 5 ((md_nd Bf ty c s).1 + jB (md_lo Bf ty c s), (md_nd Bf ty c s).2)
  have h1 := md_nd_ge Bf ty c s
  have h2 : 0 ≤ jB (md_lo Bf ty c s) := by rcases jB_01 (md_lo Bf ty c s) with e | e <;> rw [e] <;> decide
  show s.1 ≤ (md_di Bf ty 5 _).1.1
  dsimp only at h
  omega
theorem md_le3 {a b c : Int} (h1 : a ≤ b) (h2 : b ≤ c) : a ≤ c := Int.le_trans h1 h2
theorem md_cmd_gt (Bf : Int → Int) (ty k : Int) (s : md_PS) (P : Int → Int) : (md_cmd Bf ty k s P).1.2 = false → s.1 + 1 ≤ (md_cmd Bf ty k s P).1.1 := by
  unfold md_cmd
  dsimp only
  generalize hs : ((s.1 + 1, s.2) : md_PS) = s1
  have e : s.1 + 1 = s1.1 := by rw [← hs]
  rw [e]
  intro _
  split
  · exact md_le3 (md_n3_ge _ _ _ _ _ _) (md_le3 (md_da_ge _ _ _ _ _) (md_va_ge _ _ _ _))
  split
  · exact md_le3 (md_nd_ge _ _ _ _) (md_le3 (md_nd_ge _ _ _ _) (md_le3 (md_n3_ge _ _ _ _ _ _) (md_le3 (md_nd_ge _ _ _ _) (md_da_ge _ _ _ _ _))))
  split
  · unfold md_pF
    split
    · exact md_le3 (md_n3_ge _ _ _ _ _ _) (md_da_ge _ _ _ _ _)
    · exact md_le3 (md_nd_ge _ _ _ _) (md_le3 (md_nd_ge _ _ _ _) (md_le3 (md_da_ge _ _ _ _ _) (md_va_ge _ _ _ _)))
  split
  · exact md_le3 (md_nd_ge _ _ _ _) (md_le3 (md_nd_ge _ _ _ _) (md_le3 (md_n3_ge _ _ _ _ _ _) (md_le3 (md_nd_ge _ _ _ _) (md_da_ge _ _ _ _ _))))
  split
  · exact md_le3 (md_n3_ge _ _ _ _ _ _) (md_le3 (md_da_ge _ _ _ _ _) (md_le3 (md_di_ge _ _ _ _) (md_le3 (md_va_ge _ _ _ _) (md_da_ge _ _ _ _ _))))
  split
  · unfold md_pP
    split
    · exact md_le3 (md_n3_ge _ _ _ _ _ _) (md_le3 (md_n3_ge _ _ _ _ _ _) (md_da_ge _ _ _ _ _))
    · exact md_le3 (md_n3_ge _ _ _ _ _ _) (md_nd_ge _ _ _ _)
  split
  · exact md_le3 (md_n3_ge _ _ _ _ _ _) (md_nd_ge _ _ _ _)
  split
  · unfold md_pSt
    split
    · exact md_le3 (md_n3_ge _ _ _ _ _ _) (md_le3 (md_nd_ge _ _ _ _) (md_da_ge _ _ _ _ _))
    · exact md_le3 (md_n3_ge _ _ _ _ _ _) (md_le3 (md_n3_ge _ _ _ _ _ _) (md_le3 (md_da_ge _ _ _ _ _) (md_le3 (md_da_ge _ _ _ _ _) (md_va_ge _ _ _ _))))
  split
  · exact md_le3 (md_n3_ge _ _ _ _ _ _) (md_le3 (md_nd_ge _ _ _ _) (md_va_ge _ _ _ _))
  · rename_i h
    exact absurd (by assumption : (_ : Bool) = false) (by simp_all)
theorem md_cmd_ok {Bf : Int → Int} {ty : Int} (hB : ∀ j, 0 ≤ j ∧ j < 60 → 0 ≤ Bf j ∧ Bf j < 65536) (hty : 0 ≤ ty ∧ ty ≤ 60) (k : Int) {s : md_PS} (P : Int → Int) (hs : md_sok ty s.1) : md_sok ty (md_cmd Bf ty k s P).1.1 := by
  have hh := md_he_bd (Bf := Bf) hB hty hs.1
  have hs9 : 0 ≤ md_he Bf ty s.1 → md_sok ty (s.1 + 1) := fun h => by have := hh.2.2 h; unfold md_sok at *; omega
  unfold md_cmd
  dsimp only
  split
  · rename_i h; have hs9 := hs9 (by omega); exact md_va_ok hB hty (by decide) (md_da_ok hB hty (by decide) (md_n3_ok hB hty (by decide) (by decide) (by decide) (s := (s.1 + 1, s.2)) hs9))
  split
  · rename_i h; have hs9 := hs9 (by omega); exact md_da_ok hB hty (by decide) (md_nd_ok hB hty (by decide) (md_n3_ok hB hty (by decide) (by decide) (by decide) (md_nd_ok hB hty (by decide) (md_nd_ok hB hty (by decide) (s := (s.1 + 1, s.2)) hs9))))
  split
  · rename_i h; have hs9 := hs9 (by omega)
    unfold md_pF
    split
    · exact md_da_ok hB hty (by decide) (md_n3_ok hB hty (by decide) (by decide) (by decide) (s := (s.1 + 1, s.2)) hs9)
    · exact md_va_ok hB hty (by decide) (md_da_ok hB hty (by decide) (md_nd_ok hB hty (by decide) (md_nd_ok hB hty (by decide) (s := (s.1 + 1, s.2)) hs9)))
  split
  · rename_i h; have hs9 := hs9 (by omega); exact md_da_ok hB hty (by decide) (md_nd_ok hB hty (by decide) (md_n3_ok hB hty (by decide) (by decide) (by decide) (md_nd_ok hB hty (by decide) (md_nd_ok hB hty (by decide) (s := (s.1 + 1, s.2)) hs9))))
  split
  · rename_i h; have hs9 := hs9 (by omega); exact md_da_ok hB hty (by decide) (md_va_ok hB hty (by decide) (md_di_ok hB hty (md_da_ok hB hty (by decide) (md_n3_ok hB hty (by decide) (by decide) (by decide) (s := (s.1 + 1, s.2)) hs9))))
  split
  · rename_i h; have hs9 := hs9 (by omega)
    unfold md_pP
    split
    · exact md_da_ok hB hty (by decide) (md_n3_ok hB hty (by decide) (by decide) (by decide) (md_n3_ok hB hty (by decide) (by decide) (by decide) (s := (s.1 + 1, s.2)) hs9))
    · exact md_nd_ok hB hty (by decide) (md_n3_ok hB hty (by decide) (by decide) (by decide) (s := (s.1 + 1, s.2)) hs9)
  split
  · rename_i h; have hs9 := hs9 (by omega); exact md_nd_ok hB hty (by decide) (md_n3_ok hB hty (by decide) (by decide) (by decide) (s := (s.1 + 1, s.2)) hs9)
  split
  · rename_i h; have hs9 := hs9 (by omega)
    unfold md_pSt
    split
    · exact md_da_ok hB hty (by decide) (md_nd_ok hB hty (by decide) (md_n3_ok hB hty (by decide) (by decide) (by decide) (s := (s.1 + 1, s.2)) hs9))
    · exact md_va_ok hB hty (by decide) (md_da_ok hB hty (by decide) (md_da_ok hB hty (by decide) (md_n3_ok hB hty (by decide) (by decide) (by decide) (md_n3_ok hB hty (by decide) (by decide) (by decide) (s := (s.1 + 1, s.2)) hs9))))
  split
  · rename_i h; have hs9 := hs9 (by omega); exact md_va_ok hB hty (by decide) (md_nd_ok hB hty (by decide) (md_n3_ok hB hty (by decide) (by decide) (by decide) (s := (s.1 + 1, s.2)) hs9))
  · unfold md_sok at *; dsimp only; omega
/-- small numbers -/
def md_pb (P : Int → Int) : Prop := ∀ i, -99999 ≤ P i ∧ P i ≤ 99999
theorem md_pb_set {P : Int → Int} (h : md_pb P) {i v : Int} (hv : -99999 ≤ v ∧ v ≤ 99999) : md_pb (jk_set P i v) := fun j => by
  unfold jk_set; split
  · exact hv
  · exact h j
theorem md_dl_bd {Bf : Int → Int} {ty : Int} : ∀ (f j : Nat) (x : Int × Int), f + j ≤ 5 → 0 ≤ x.2 ∧ x.2 < md_p10 j → 0 ≤ (md_dl Bf ty f x).2 ∧ (md_dl Bf ty f x).2 < md_p10 (f + j)
  | 0, j, x, _, h => by rw [Nat.zero_add]; exact h
  | f + 1, j, x, hf, h => by
    unfold md_dl
    split
    · rename_i h2
      have h3 := md_inT h2
      have := md_dl_bd (Bf := Bf) (ty := ty) f (j + 1) (x.1 + 1, 10 * x.2 + md_he Bf ty x.1 - 48) (by omega) (by show 0 ≤ 10 * x.2 + md_he Bf ty x.1 - 48 ∧ 10 * x.2 + md_he Bf ty x.1 - 48 < 10 * md_p10 j; omega)
      rwa [show f + (j + 1) = f + 1 + j by omega] at this
    · refine ⟨h.1, Int.lt_of_lt_of_le h.2 ?_⟩
      have key : ∀ a b : Nat, md_p10 a ≤ md_p10 (b + a) := by
        intro a b
        induction b with
        | zero => rw [Nat.zero_add]; exact Int.le_refl _
        | succ b ih =>
          rw [show b + 1 + a = (b + a) + 1 by omega]
          show _ ≤ 10 * md_p10 (b + a)
          have : 0 ≤ md_p10 (b + a) := by
            have h0 : ∀ c : Nat, 0 ≤ md_p10 c := fun c => by
              induction c with
              | zero => decide
              | succ c ih => show 0 ≤ 10 * md_p10 c; omega
            exact h0 _
          omega
      exact key j (f + 1)
theorem md_di_bd (Bf : Int → Int) (ty : Int) {most : Nat} (hm : most ≤ 5) (s : md_PS) : -99999 ≤ (md_di Bf ty most s).2 ∧ (md_di Bf ty most s).2 ≤ 99999 := by
  unfold md_di
  split
  · show -99999 ≤ (0 : Int) ∧ (0 : Int) ≤ 99999
    decide
  · have h := md_dl_bd (Bf := Bf) (ty := ty) most 0 (s.1, 0) (by omega) (by show (0 : Int) ≤ 0 ∧ (0 : Int) < 1; decide)
    have h2 : md_p10 (most + 0) ≤ 100000 := by
      have key : ∀ j : Fin 6, md_p10 j.val ≤ 100000 := by decide
      exact key ⟨most + 0, by omega⟩
    dsimp only
    omega
theorem md_va_bd (Bf : Int → Int) (ty c : Int) (s : md_PS) : -99999 ≤ (md_va Bf ty c s).2 ∧ (md_va Bf ty c s).2 ≤ 99999 := by
  have h := md_di_bd Bf ty (most := 5) (by decide) ((md_nd Bf ty c s).1 + jB (md_lo Bf ty c s), (md_nd Bf ty c s).2)
  unfold md_va
  dsimp only
  split <;> omega
theorem md_cmd_pb {Bf : Int → Int} {ty : Int} (hB : ∀ j, 0 ≤ j ∧ j < 60 → 0 ≤ Bf j ∧ Bf j < 65536) (hty : 0 ≤ ty ∧ ty ≤ 60) (k : Int) {s : md_PS} {P : Int → Int} (hP : md_pb P) (hs : md_sok ty s.1) : md_pb (md_cmd Bf ty k s P).2 := by
  have hh := md_he_bd (Bf := Bf) hB hty hs.1
  have hP1 : md_pb (jk_set P k (md_he Bf ty s.1)) := md_pb_set hP ⟨by omega, by omega⟩
  unfold md_cmd
  dsimp only
  split
  · exact md_pb_set (md_pb_set hP1 (md_di_bd _ _ (by decide) _)) (md_va_bd _ _ _ _)
  split
  · exact md_pb_set hP1 (md_di_bd _ _ (by decide) _)
  split
  · unfold md_pF
    split
    · exact md_pb_set (md_pb_set hP1 (by decide)) (md_di_bd _ _ (by decide) _)
    · exact md_pb_set (md_pb_set hP1 (md_di_bd _ _ (by decide) _)) (md_va_bd _ _ _ _)
  split
  · exact md_pb_set hP1 (md_di_bd _ _ (by decide) _)
  split
  · exact md_pb_set (md_pb_set (md_pb_set (md_pb_set hP1 (md_di_bd _ _ (by decide) _)) (md_di_bd _ _ (by decide) _)) (md_va_bd _ _ _ _)) (md_di_bd _ _ (by decide) _)
  split
  · unfold md_pP
    split
    · exact md_pb_set (md_pb_set hP1 (by decide)) (md_di_bd _ _ (by decide) _)
    · exact hP1
  split
  · exact hP1
  split
  · unfold md_pSt
    split
    · exact md_pb_set (md_pb_set hP1 (by decide)) (md_di_bd _ _ (by decide) _)
    · exact md_pb_set (md_pb_set (md_pb_set hP1 (md_di_bd _ _ (by decide) _)) (md_di_bd _ _ (by decide) _)) (md_va_bd _ _ _ _)
  split
  · exact md_pb_set hP1 (md_va_bd _ _ _ _)
  · exact hP1
def md_mo (Bf : Int → Int) (ty : Int) (r : md_TR) : Bool := !r.1.2 && decide (md_he Bf ty r.1.1 = 59)
def md_sn (Bf : Int → Int) (ty : Int) (P0 : Int → Int) : Nat → md_TR × Bool
  | 0 => (((0, false), P0), true)
  | j + 1 => (((((md_cmd Bf ty (5 * (j : Int)) (md_sn Bf ty P0 j).1.1 (md_sn Bf ty P0 j).1.2).1.1 + jB (md_mo Bf ty (md_cmd Bf ty (5 * (j : Int)) (md_sn Bf ty P0 j).1.1 (md_sn Bf ty P0 j).1.2)), (md_cmd Bf ty (5 * (j : Int)) (md_sn Bf ty P0 j).1.1 (md_sn Bf ty P0 j).1.2).1.2), (md_cmd Bf ty (5 * (j : Int)) (md_sn Bf ty P0 j).1.1 (md_sn Bf ty P0 j).1.2).2)), md_mo Bf ty (md_cmd Bf ty (5 * (j : Int)) (md_sn Bf ty P0 j).1.1 (md_sn Bf ty P0 j).1.2))
theorem md_sn_ok {Bf : Int → Int} {ty : Int} (hB : ∀ j, 0 ≤ j ∧ j < 60 → 0 ≤ Bf j ∧ Bf j < 65536) (hty : 0 ≤ ty ∧ ty ≤ 60) {P0 : Int → Int} (hP : md_pb P0) : ∀ j : Nat, md_sok ty (md_sn Bf ty P0 j).1.1.1 ∧ md_pb (md_sn Bf ty P0 j).1.2
  | 0 => ⟨⟨Int.le_refl _, hty.1⟩, hP⟩
  | j + 1 => by
    have ih := md_sn_ok hB hty hP j
    have h1 := md_cmd_ok hB hty (5 * (j : Int)) (s := (md_sn Bf ty P0 j).1.1) (md_sn Bf ty P0 j).1.2 ih.1
    have h2 := md_cmd_pb hB hty (5 * (j : Int)) (s := (md_sn Bf ty P0 j).1.1) ih.2 ih.1
    refine ⟨?_, h2⟩
    unfold md_sn
    dsimp only
    generalize md_cmd Bf ty (5 * (j : Int)) (md_sn Bf ty P0 j).1.1 (md_sn Bf ty P0 j).1.2 = r at h1 ⊢
    have hh := md_he_bd (Bf := Bf) hB hty h1.1
    cases h3 : md_mo Bf ty r
    · rw [jB_f, Int.add_zero]; exact h1
    · rw [jB_t]
      unfold md_mo at h3
      simp at h3
      unfold md_sok at *
      omega
theorem md_sn_2j {Bf : Int → Int} {ty : Int} {P0 : Int → Int} : ∀ j : Nat, (md_sn Bf ty P0 j).2 = true → (∀ i, i < j → (md_sn Bf ty P0 i).2 = true) → 2 * (j : Int) ≤ (md_sn Bf ty P0 j).1.1.1
  | 0, _, _ => Int.le_refl _
  | j + 1, h, hall => by
    have ih := md_sn_2j j (hall j (by omega)) (fun i hi => hall i (by omega))
    unfold md_sn at h ⊢
    dsimp only at h ⊢
    have hg := md_cmd_gt Bf ty (5 * (j : Int)) (md_sn Bf ty P0 j).1.1 (md_sn Bf ty P0 j).1.2
    rw [h, jB_t]
    unfold md_mo at h
    simp at h
    have := hg h.1
    omega
end MD26
