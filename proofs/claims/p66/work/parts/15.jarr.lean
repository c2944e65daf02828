section JA
variable {G : jk_G} {M : jk_M} {pc q : Nat} {ls : List (Option Value)} {st : List Value} {n : Nat} {t : jk_T} {σ σ' : jk_I} {ρ ρ' : jk_P} {rc rs : Nat} {Q : jk_Q} {X : jk_X}
theorem jk_ix {x : Int} {len : Nat} (h0 : 0 ≤ x) (h1 : x < (len : Int)) (hl : len ≤ 536870912) : ¬ (Int32.ofInt x < 0 ∨ len ≤ (Int32.ofInt x).toNatClampNeg) ∧ (Int32.ofInt x).toNatClampNeg = x.toNat ∧ x.toNat < len ∧ ((x.toNat : Nat) : Int) = x := by
  have hi : (Int32.ofInt x).toInt = x := jk_ti ⟨by omega, by omega⟩
  have hc : (Int32.ofInt x).toNatClampNeg = x.toNat := by show (Int32.ofInt x).toInt.toNat = _; rw [hi]
  refine ⟨fun h => ?_, hc, by omega, by omega⟩
  rcases h with h | h
  · rw [Int32.lt_iff_toInt_lt, hi] at h
    have : (0 : Int32).toInt = 0 := rfl
    omega
  · rw [hc] at h; omega
theorem jk_iald {a len : Nat} {x : Int} (ht : t a = some (.inl (.int, len))) (hx : 0 ≤ x ∧ x < (len : Int)) (hd : decode (jk_cc M) pc = .ok (.iaload, 1)) (hp : pc + 1 = q) (kk : jk_J G M q ls (jI (σ a x) :: st) n t σ ρ rc rs Q X) : jk_J G M pc ls (jI x :: .ref a :: st) n t σ ρ rc rs Q X := by
  subst hp
  intro p e R s m args below meth c H locs cells slots ls' C hl hR hS hc hs
  have hcell := hR.2.2.2 a
  rw [ht] at hcell
  obtain ⟨h6, han, hae, hlen, cA, q1, q2, q3⟩ := hcell
  obtain ⟨i1, i2, i3, i4⟩ := jk_ix hx.1 hx.2 hlen
  refine W.iald C.1 C.2.1 q1 (q2 _ _) (fun h => by cases h) (by rw [arrV_size]; exact i1) (v := jk_E G .int (σ a x) (ρ a x)) (by rw [i2, arrV_read _ _ i3, i4]) rfl rfl hd ?_
  exact kk p e R s m args below meth c H locs cells slots ls' C hl hR hS hc hs
theorem jk_bald {a len : Nat} {x : Int} (ht : t a = some (.inl (.byte, len))) (hx : 0 ≤ x ∧ x < (len : Int)) (hd : decode (jk_cc M) pc = .ok (.baload, 1)) (hp : pc + 1 = q) (kk : jk_J G M q ls (jI (σ a x) :: st) n t σ ρ rc rs Q X) : jk_J G M pc ls (jI x :: .ref a :: st) n t σ ρ rc rs Q X := by
  subst hp
  intro p e R s m args below meth c H locs cells slots ls' C hl hR hS hc hs
  have hcell := hR.2.2.2 a
  rw [ht] at hcell
  obtain ⟨h6, han, hae, hlen, cA, q1, q2, q3⟩ := hcell
  obtain ⟨i1, i2, i3, i4⟩ := jk_ix hx.1 hx.2 hlen
  refine W.bald C.1 C.2.1 q1 (q2 _ _) (fun h => by cases h) (by rw [arrV_size]; exact i1) (v := jk_E G .byte (σ a x) (ρ a x)) (by rw [i2, arrV_read _ _ i3, i4]) rfl rfl hd ?_
  exact kk p e R s m args below meth c H locs cells slots ls' C hl hR hS hc hs
theorem jk_zald {a len : Nat} {x : Int} (ht : t a = some (.inl (.boolean, len))) (hx : 0 ≤ x ∧ x < (len : Int)) (hd : decode (jk_cc M) pc = .ok (.baload, 1)) (hp : pc + 1 = q) (kk : jk_J G M q ls (jI (σ a x) :: st) n t σ ρ rc rs Q X) : jk_J G M pc ls (jI x :: .ref a :: st) n t σ ρ rc rs Q X := by
  subst hp
  intro p e R s m args below meth c H locs cells slots ls' C hl hR hS hc hs
  have hcell := hR.2.2.2 a
  rw [ht] at hcell
  obtain ⟨h6, han, hae, hlen, cA, q1, q2, q3⟩ := hcell
  obtain ⟨i1, i2, i3, i4⟩ := jk_ix hx.1 hx.2 hlen
  refine W.zald C.1 C.2.1 q1 (q2 _ _) (fun h => by cases h) (by rw [arrV_size]; exact i1) (v := jk_E G .boolean (σ a x) (ρ a x)) (by rw [i2, arrV_read _ _ i3, i4]) rfl rfl hd ?_
  exact kk p e R s m args below meth c H locs cells slots ls' C hl hR hS hc hs
theorem jk_cald {a len : Nat} {x : Int} (ht : t a = some (.inl (.char, len))) (hx : 0 ≤ x ∧ x < (len : Int)) (hd : decode (jk_cc M) pc = .ok (.caload, 1)) (hp : pc + 1 = q) (kk : jk_J G M q ls (jI (σ a x) :: st) n t σ ρ rc rs Q X) : jk_J G M pc ls (jI x :: .ref a :: st) n t σ ρ rc rs Q X := by
  subst hp
  intro p e R s m args below meth c H locs cells slots ls' C hl hR hS hc hs
  have hcell := hR.2.2.2 a
  rw [ht] at hcell
  obtain ⟨h6, han, hae, hlen, cA, q1, q2, q3⟩ := hcell
  obtain ⟨i1, i2, i3, i4⟩ := jk_ix hx.1 hx.2 hlen
  refine W.cald C.1 C.2.1 q1 (q2 _ _) (fun h => by cases h) (by rw [arrV_size]; exact i1) (v := jk_E G .char (σ a x) (ρ a x)) (by rw [i2, arrV_read _ _ i3, i4]) rfl rfl hd ?_
  exact kk p e R s m args below meth c H locs cells slots ls' C hl hR hS hc hs
theorem jk_sald {a len : Nat} {x : Int} (ht : t a = some (.inl (.short, len))) (hx : 0 ≤ x ∧ x < (len : Int)) (hd : decode (jk_cc M) pc = .ok (.saload, 1)) (hp : pc + 1 = q) (kk : jk_J G M q ls (jI (σ a x) :: st) n t σ ρ rc rs Q X) : jk_J G M pc ls (jI x :: .ref a :: st) n t σ ρ rc rs Q X := by
  subst hp
  intro p e R s m args below meth c H locs cells slots ls' C hl hR hS hc hs
  have hcell := hR.2.2.2 a
  rw [ht] at hcell
  obtain ⟨h6, han, hae, hlen, cA, q1, q2, q3⟩ := hcell
  obtain ⟨i1, i2, i3, i4⟩ := jk_ix hx.1 hx.2 hlen
  refine W.sald C.1 C.2.1 q1 (q2 _ _) (fun h => by cases h) (by rw [arrV_size]; exact i1) (v := jk_E G .short (σ a x) (ρ a x)) (by rw [i2, arrV_read _ _ i3, i4]) rfl rfl hd ?_
  exact kk p e R s m args below meth c H locs cells slots ls' C hl hR hS hc hs
theorem jk_lald {a len : Nat} {x : Int} (ht : t a = some (.inl (.long, len))) (hx : 0 ≤ x ∧ x < (len : Int)) (hd : decode (jk_cc M) pc = .ok (.laload, 1)) (hp : pc + 1 = q) (kk : jk_J G M q ls (jL (σ a x) :: st) n t σ ρ rc rs Q X) : jk_J G M pc ls (jI x :: .ref a :: st) n t σ ρ rc rs Q X := by
  subst hp
  intro p e R s m args below meth c H locs cells slots ls' C hl hR hS hc hs
  have hcell := hR.2.2.2 a
  rw [ht] at hcell
  obtain ⟨h6, han, hae, hlen, cA, q1, q2, q3⟩ := hcell
  obtain ⟨i1, i2, i3, i4⟩ := jk_ix hx.1 hx.2 hlen
  refine W.lald C.1 C.2.1 q1 (q2 _ _) (fun h => by cases h) (by rw [arrV_size]; exact i1) (v := jk_E G .long (σ a x) (ρ a x)) (by rw [i2, arrV_read _ _ i3, i4]) rfl rfl hd ?_
  exact kk p e R s m args below meth c H locs cells slots ls' C hl hR hS hc hs
theorem jk_dald {a len : Nat} {x : Int} (ht : t a = some (.inl (.double, len))) (hx : 0 ≤ x ∧ x < (len : Int)) (hd : decode (jk_cc M) pc = .ok (.daload, 1)) (hp : pc + 1 = q) (kk : jk_J G M q ls (.double (UInt64.ofNat (σ a x).toNat) :: st) n t σ ρ rc rs Q X) : jk_J G M pc ls (jI x :: .ref a :: st) n t σ ρ rc rs Q X := by
  subst hp
  intro p e R s m args below meth c H locs cells slots ls' C hl hR hS hc hs
  have hcell := hR.2.2.2 a
  rw [ht] at hcell
  obtain ⟨h6, han, hae, hlen, cA, q1, q2, q3⟩ := hcell
  obtain ⟨i1, i2, i3, i4⟩ := jk_ix hx.1 hx.2 hlen
  refine W.dald C.1 C.2.1 q1 (q2 _ _) (fun h => by cases h) (by rw [arrV_size]; exact i1) (v := jk_E G .double (σ a x) (ρ a x)) (by rw [i2, arrV_read _ _ i3, i4]) rfl rfl hd ?_
  exact kk p e R s m args below meth c H locs cells slots ls' C hl hR hS hc hs
theorem jk_aald {a len b : Nat} {x : Int} {ty : FieldType} (hty : ty.isReference = true) (hv : jk_E G ty = fun _ r => va_rf (r.map (jk_ad G))) (ht : t a = some (.inl (ty, len))) (hx : 0 ≤ x ∧ x < (len : Int)) (hr : ρ a x = some b) (hd : decode (jk_cc M) pc = .ok (.aaload, 1)) (hp : pc + 1 = q) (kk : jk_J G M q ls (.ref b :: st) n t σ ρ rc rs Q X) : jk_J G M pc ls (jI x :: .ref a :: st) n t σ ρ rc rs Q X := by
  subst hp
  intro p e R s m args below meth c H locs cells slots ls' C hl hR hS hc hs
  have hcell := hR.2.2.2 a
  rw [ht] at hcell
  obtain ⟨h6, han, hae, hlen, cA, q1, q2, q3⟩ := hcell
  obtain ⟨i1, i2, i3, i4⟩ := jk_ix hx.1 hx.2 hlen
  refine W.aald C.1 C.2.1 q1 (ty := ty) (q2 _ _) hty (fun h => by cases h) (by rw [arrV_size]; exact i1) (v := .ref (jk_ad G b)) (by rw [i2, arrV_read _ _ i3, i4, hv, hr]; rfl) rfl rfl hd ?_
  exact kk p e R s m args below meth c H locs cells slots ls' C hl hR hS hc hs
theorem jk_alen {a len : Nat} {ty : FieldType} (ht : t a = some (.inl (ty, len))) (hd : decode (jk_cc M) pc = .ok (.arraylength, 1)) (hp : pc + 1 = q) (kk : jk_J G M q ls (jI (len : Int) :: st) n t σ ρ rc rs Q X) : jk_J G M pc ls (.ref a :: st) n t σ ρ rc rs Q X := by
  subst hp
  intro p e R s m args below meth c H locs cells slots ls' C hl hR hS hc hs
  have hcell := hR.2.2.2 a
  rw [ht] at hcell
  obtain ⟨h6, han, hae, hlen, cA, q1, q2, q3⟩ := hcell
  refine W.alen C.1 C.2.1 q1 (ty := ty) (q2 _ _) (n := Int32.ofInt (len : Int)) (by rw [arrV_size]; exact (Int32.ofInt_eq_ofNat).symm ▸ rfl) rfl rfl hd ?_
  exact kk p e R s m args below meth c H locs cells slots ls' C hl hR hS hc hs
theorem jk_narB {y : Int} (hy : -128 ≤ y ∧ y < 128) : narrow .byte (.int (Int32.ofInt y)) = .int (Int32.ofInt y) := by
  have e : (Int32.ofInt y).toInt8.toInt32 = Int32.ofInt y := by
    rw [← Int32.toInt_inj, Int8.toInt_toInt32, Int32.toInt_toInt8, jk_ti ⟨by omega, by omega⟩]
    have e : ((2 ^ 8 : Nat) : Int) = 256 := rfl
    simp only [Int.bmod, e]
    split <;> omega
  show Value.int _ = _
  rw [← e]
  simp
theorem jk_narZ {y : Int} (hy : y = 0 ∨ y = 1) : narrow .boolean (.int (Int32.ofInt y)) = .int (Int32.ofInt y) := by
  rcases hy with rfl | rfl <;> rfl
theorem jk_narC {y : Int} (hy : 0 ≤ y ∧ y < 65536) : narrow .char (.int (Int32.ofInt y)) = .int (Int32.ofInt y) := by
  obtain ⟨j, rfl⟩ : ∃ j : Nat, y = (j : Int) := ⟨y.toNat, by omega⟩
  have hj : j < 65536 := by omega
  have e : Int32.ofInt (j : Int) = nI j := Int32.ofInt_eq_ofNat
  rw [e]
  exact (pk_charN hj).1
theorem jk_iast {a len : Nat} {x y : Int} (ht : t a = some (.inl (.int, len))) (hx : 0 ≤ x ∧ x < (len : Int)) (hd : decode (jk_cc M) pc = .ok (.iastore, 1)) (hp : pc + 1 = q) (kk : jk_J G M q ls st n t (jk_up σ a x y) ρ rc rs Q X) : jk_J G M pc ls (jI y :: jI x :: .ref a :: st) n t σ ρ rc rs Q X := by
  subst hp
  intro p e R s m args below meth c H locs cells slots ls' C hl hR hS hc hs
  have hcell := hR.2.2.2 a
  rw [ht] at hcell
  obtain ⟨h6, han, hae, hlen, cA, q1, q2, q3⟩ := hcell
  obtain ⟨i1, i2, i3, i4⟩ := jk_ix hx.1 hx.2 hlen
  refine W.iast C.1 C.2.1 q1 (q2 _ _) (fun h => by cases h) (by rw [arrV_size]; exact i1) rfl rfl hd fun H' e1 e2 e3 => ?_
  rw [i2, arrV_store] at e1
  refine kk p e R s m args below meth c H' _ cells slots ls' C hl (jk_R_set hR e2 e3 h6 hae ?_ (fun b hb => jk_up_row σ x y hb) (fun b hb => rfl)) (hS.put e2 e3 (jk_ad_A h6 hae)) hc hs
  rw [ht]
  refine ⟨h6, han, hae, hlen, cA, e1.trans ?_, q2, q3⟩
  congr 2
  funext j
  by_cases hj : j = x.toNat
  · subst hj; simp [updV, i4, jk_up, jk_E]
  · have : ¬ (j : Int) = x := by omega
    simp [updV, hj, jk_up, this]
theorem jk_bast {a len : Nat} {x y : Int} (ht : t a = some (.inl (.byte, len))) (hx : 0 ≤ x ∧ x < (len : Int)) (hy : -128 ≤ y ∧ y < 128) (hd : decode (jk_cc M) pc = .ok (.bastore, 1)) (hp : pc + 1 = q) (kk : jk_J G M q ls st n t (jk_up σ a x y) ρ rc rs Q X) : jk_J G M pc ls (jI y :: jI x :: .ref a :: st) n t σ ρ rc rs Q X := by
  subst hp
  intro p e R s m args below meth c H locs cells slots ls' C hl hR hS hc hs
  have hcell := hR.2.2.2 a
  rw [ht] at hcell
  obtain ⟨h6, han, hae, hlen, cA, q1, q2, q3⟩ := hcell
  obtain ⟨i1, i2, i3, i4⟩ := jk_ix hx.1 hx.2 hlen
  refine W.bast C.1 C.2.1 q1 (q2 _ _) (fun h => by cases h) (by rw [arrV_size]; exact i1) rfl rfl hd fun H' e1 e2 e3 => ?_
  rw [jk_narB hy] at e1; rw [i2, arrV_store] at e1
  refine kk p e R s m args below meth c H' _ cells slots ls' C hl (jk_R_set hR e2 e3 h6 hae ?_ (fun b hb => jk_up_row σ x y hb) (fun b hb => rfl)) (hS.put e2 e3 (jk_ad_A h6 hae)) hc hs
  rw [ht]
  refine ⟨h6, han, hae, hlen, cA, e1.trans ?_, q2, q3⟩
  congr 2
  funext j
  by_cases hj : j = x.toNat
  · subst hj; simp [updV, i4, jk_up, jk_E]
  · have : ¬ (j : Int) = x := by omega
    simp [updV, hj, jk_up, this]
theorem jk_zast {a len : Nat} {x y : Int} (ht : t a = some (.inl (.boolean, len))) (hx : 0 ≤ x ∧ x < (len : Int)) (hy : y = 0 ∨ y = 1) (hd : decode (jk_cc M) pc = .ok (.bastore, 1)) (hp : pc + 1 = q) (kk : jk_J G M q ls st n t (jk_up σ a x y) ρ rc rs Q X) : jk_J G M pc ls (jI y :: jI x :: .ref a :: st) n t σ ρ rc rs Q X := by
  subst hp
  intro p e R s m args below meth c H locs cells slots ls' C hl hR hS hc hs
  have hcell := hR.2.2.2 a
  rw [ht] at hcell
  obtain ⟨h6, han, hae, hlen, cA, q1, q2, q3⟩ := hcell
  obtain ⟨i1, i2, i3, i4⟩ := jk_ix hx.1 hx.2 hlen
  refine W.zast C.1 C.2.1 q1 (q2 _ _) (fun h => by cases h) (by rw [arrV_size]; exact i1) rfl rfl hd fun H' e1 e2 e3 => ?_
  rw [jk_narZ hy] at e1; rw [i2, arrV_store] at e1
  refine kk p e R s m args below meth c H' _ cells slots ls' C hl (jk_R_set hR e2 e3 h6 hae ?_ (fun b hb => jk_up_row σ x y hb) (fun b hb => rfl)) (hS.put e2 e3 (jk_ad_A h6 hae)) hc hs
  rw [ht]
  refine ⟨h6, han, hae, hlen, cA, e1.trans ?_, q2, q3⟩
  congr 2
  funext j
  by_cases hj : j = x.toNat
  · subst hj; simp [updV, i4, jk_up, jk_E]
  · have : ¬ (j : Int) = x := by omega
    simp [updV, hj, jk_up, this]
theorem jk_cast {a len : Nat} {x y : Int} (ht : t a = some (.inl (.char, len))) (hx : 0 ≤ x ∧ x < (len : Int)) (hy : 0 ≤ y ∧ y < 65536) (hd : decode (jk_cc M) pc = .ok (.castore, 1)) (hp : pc + 1 = q) (kk : jk_J G M q ls st n t (jk_up σ a x y) ρ rc rs Q X) : jk_J G M pc ls (jI y :: jI x :: .ref a :: st) n t σ ρ rc rs Q X := by
  subst hp
  intro p e R s m args below meth c H locs cells slots ls' C hl hR hS hc hs
  have hcell := hR.2.2.2 a
  rw [ht] at hcell
  obtain ⟨h6, han, hae, hlen, cA, q1, q2, q3⟩ := hcell
  obtain ⟨i1, i2, i3, i4⟩ := jk_ix hx.1 hx.2 hlen
  refine W.cast C.1 C.2.1 q1 (q2 _ _) (fun h => by cases h) (by rw [arrV_size]; exact i1) rfl rfl hd fun H' e1 e2 e3 => ?_
  rw [jk_narC hy] at e1; rw [i2, arrV_store] at e1
  refine kk p e R s m args below meth c H' _ cells slots ls' C hl (jk_R_set hR e2 e3 h6 hae ?_ (fun b hb => jk_up_row σ x y hb) (fun b hb => rfl)) (hS.put e2 e3 (jk_ad_A h6 hae)) hc hs
  rw [ht]
  refine ⟨h6, han, hae, hlen, cA, e1.trans ?_, q2, q3⟩
  congr 2
  funext j
  by_cases hj : j = x.toNat
  · subst hj; simp [updV, i4, jk_up, jk_E]
  · have : ¬ (j : Int) = x := by omega
    simp [updV, hj, jk_up, this]
theorem jk_last {a len : Nat} {x y : Int} (ht : t a = some (.inl (.long, len))) (hx : 0 ≤ x ∧ x < (len : Int)) (hd : decode (jk_cc M) pc = .ok (.lastore, 1)) (hp : pc + 1 = q) (kk : jk_J G M q ls st n t (jk_up σ a x y) ρ rc rs Q X) : jk_J G M pc ls (jL y :: jI x :: .ref a :: st) n t σ ρ rc rs Q X := by
  subst hp
  intro p e R s m args below meth c H locs cells slots ls' C hl hR hS hc hs
  have hcell := hR.2.2.2 a
  rw [ht] at hcell
  obtain ⟨h6, han, hae, hlen, cA, q1, q2, q3⟩ := hcell
  obtain ⟨i1, i2, i3, i4⟩ := jk_ix hx.1 hx.2 hlen
  refine W.last C.1 C.2.1 q1 (q2 _ _) (fun h => by cases h) (by rw [arrV_size]; exact i1) rfl rfl hd fun H' e1 e2 e3 => ?_
  rw [i2, arrV_store] at e1
  refine kk p e R s m args below meth c H' _ cells slots ls' C hl (jk_R_set hR e2 e3 h6 hae ?_ (fun b hb => jk_up_row σ x y hb) (fun b hb => rfl)) (hS.put e2 e3 (jk_ad_A h6 hae)) hc hs
  rw [ht]
  refine ⟨h6, han, hae, hlen, cA, e1.trans ?_, q2, q3⟩
  congr 2
  funext j
  by_cases hj : j = x.toNat
  · subst hj; simp [updV, i4, jk_up, jk_E]
  · have : ¬ (j : Int) = x := by omega
    simp [updV, hj, jk_up, this]
end JA
