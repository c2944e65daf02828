section B0
theorem jk_fitB {x : Int} (h : 0 ≤ x ∧ x < 128) : fits .byte (.int (Int32.ofInt x)) = true := by
  have key : ∀ j : Fin 128, fits .byte (.int (Int32.ofInt (j.val : Int))) = true := by decide +kernel
  have := key ⟨x.toNat, by omega⟩
  rw [show (((⟨x.toNat, by omega⟩ : Fin 128).val : Nat) : Int) = x by show ((x.toNat : Nat) : Int) = x; omega] at this
  exact this
section JB
variable {G : jk_G} {M : jk_M} {pc q : Nat} {ls : List (Option Value)} {st : List Value} {n : Nat} {t : jk_T} {σ : jk_I} {ρ : jk_P} {rc rs : Nat} {Q : jk_Q} {X : jk_X}
theorem jk_ishr0 {x : Int} (hd : decode (jk_cc M) pc = .ok (.ishr, 1)) (hp : pc + 1 = q) (k : jk_J G M q ls (jI x :: st) n t σ ρ rc rs Q X) : jk_J G M pc ls (jI 0 :: jI x :: st) n t σ ρ rc rs Q X := by
  subst hp
  exact jk_pure (fun p e R s m args below meth c H locs cells slots ls' Qf hx hb kk => lv_ishr hx hb hd (by rw [jk_shr0]; exact kk)) k
theorem jk_shl0 {x : Int} : Int32.ofInt x <<< (Int32.ofInt 0 &&& 31) = Int32.ofInt x := by
  rw [← Int32.toInt_inj, show (Int32.ofInt 0 &&& 31) = 0 by decide]
  show ((Int32.ofInt x).toBitVec <<< ((0 : Int32).toBitVec.smod 32)).toInt = _
  rw [show (0 : Int32).toBitVec.smod 32 = 0#32 by decide]
  show ((Int32.ofInt x).toBitVec <<< (0#32).toNat).toInt = _
  rw [show (0#32).toNat = 0 by decide, BitVec.shiftLeft_zero]
  rfl
theorem jk_ishl0 {x : Int} (hd : decode (jk_cc M) pc = .ok (.ishl, 1)) (hp : pc + 1 = q) (k : jk_J G M q ls (jI x :: st) n t σ ρ rc rs Q X) : jk_J G M pc ls (jI 0 :: jI x :: st) n t σ ρ rc rs Q X := by
  subst hp
  exact jk_pure (fun p e R s m args below meth c H locs cells slots ls' Qf hx hb kk => lv_ishl hx hb hd (by rw [jk_shl0]; exact kk)) k
theorem jk_i2bv {x : Int} (h : 0 ≤ x ∧ x < 128) : (Int32.ofInt x).toInt8.toInt32 = Int32.ofInt x := by
  have key : ∀ j : Fin 128, (Int32.ofInt (j.val : Int)).toInt8.toInt32 = Int32.ofInt (j.val : Int) := by decide +kernel
  have := key ⟨x.toNat, by omega⟩
  rw [show (((⟨x.toNat, by omega⟩ : Fin 128).val : Nat) : Int) = x by show ((x.toNat : Nat) : Int) = x; omega] at this
  exact this
theorem jk_i2b {x : Int} (h : 0 ≤ x ∧ x < 128) (hd : decode (jk_cc M) pc = .ok (.i2b, 1)) (hp : pc + 1 = q) (k : jk_J G M q ls (jI x :: st) n t σ ρ rc rs Q X) : jk_J G M pc ls (jI x :: st) n t σ ρ rc rs Q X := by
  subst hp
  exact jk_pure (fun p e R s m args below meth c H locs cells slots ls' Qf hx hb kk => lv_i2b hx hb hd (jk_i2bv h) kk) k
/-- bytes copied by System.arraycopy, from the first on -/
theorem jk_copyb {a0 a n0 n1 : Nat} {k : Int} {index : Nat} (ht0 : t a0 = some (.inl (.byte, n0))) (ht1 : t a = some (.inl (.byte, n1))) (hk : 0 ≤ k ∧ k ≤ (n0 : Int) ∧ k ≤ (n1 : Int) ∧ k ≤ 65536) (hfit : ∀ j : Int, 0 ≤ j ∧ j < k → 0 ≤ σ a0 j ∧ σ a0 j < 128)
    (hw : Cond.methodLink (jk_own M) index ⟨"java/lang/System", "arraycopy", "(Ljava/lang/Object;ILjava/lang/Object;II)V"⟩ ∈ jk_WS) (hdep : Nat.ble 1 (jk_d M) = true) (hlen : Nat.ble st.length 4 = true) (hd : decode (jk_cc M) pc = .ok (.invokestatic index, 3)) (hp : pc + 3 = q)
    (kk : jk_J G M q ls st n t (jk_row σ a (fun j => if 0 ≤ j ∧ j < k then σ a0 j else σ a j)) ρ rc rs Q X) : jk_J G M pc ls (jI k :: jI 0 :: .ref a :: jI 0 :: .ref a0 :: st) n t σ ρ rc rs Q X := by
  subst hp
  intro p e R s m args below meth c H locs cells slots ls' C hl hR hS hc hs
  have hts := C.2.2.2.2.2.2.1
  have h1 := Nat.le_of_ble_eq_true hdep
  have h2 := Nat.le_of_ble_eq_true hlen
  have hd1 := C.2.2.2.2.2.2.2.2.2.1
  have hd2 := C.2.2.2.2.2.2.2.2.2.2.1
  have hcs := jk_catsum (G := G) st
  have c0 := hR.2.2.2 a0
  rw [ht0] at c0
  obtain ⟨h60, han0, hae0, hlen0, cA0, q10, q20, q30⟩ := c0
  have c1 := hR.2.2.2 a
  rw [ht1] at c1
  obtain ⟨h6, han, hae, hlen9, cA, q1, q2, q3⟩ := c1
  have ek : (Int32.ofInt k).toInt = k := jk_ti ⟨by omega, by omega⟩
  have ek2 : (Int32.ofInt k).toNatClampNeg = k.toNat := by show (Int32.ofInt k).toInt.toNat = _; rw [ek]
  have e02 : (Int32.ofInt 0).toNatClampNeg = 0 := by decide
  intro T hT X
  obtain ⟨-, k0, hk0, cm0, hkk0⟩ := q20 n0 (fun j => jk_E G .byte (σ a0 (j : Int)) (ρ a0 (j : Int)))
  obtain ⟨-, k1, hk1, cm1, hkk1⟩ := q2 n1 (fun j => jk_E G .byte (σ a (j : Int)) (ρ a (j : Int)))
  obtain ⟨vm', X', step⟩ := X.arraycopy C.1 C.2.2.2.2.2.1 (hts _ hw) (hts _ jw_1255) (hts _ jw_1254) (hts _ jw_33) (src := jk_ad G a0) (dst := jk_ad G a) (cs := arrV cA0 n0 (fun j => jk_E G .byte (σ a0 (j : Int)) (ρ a0 (j : Int)))) (cd := arrV cA n1 (fun j => jk_E G .byte (σ a (j : Int)) (ρ a (j : Int)))) (srcPos := Int32.ofInt 0) (destPos := Int32.ofInt 0) (n := Int32.ofInt k) (by rw [hT]; exact q10) (by rw [hT]; exact q1)
    (fun _ h => by cases h) (fun _ h => by cases h) (fun h => by cases h) (fun h => by cases h) hk0 hk1 hkk0 hkk1 rfl (by decide) (by decide) (fun h => by
      have := Int32.lt_iff_toInt_lt.mp h
      rw [ek] at this
      have h0 : (0 : Int32).toInt = 0 := by decide
      omega)
    (by rw [ek]; show ¬ (0 : Int) + k > ((arrV cA0 n0 (fun j => jk_E G .byte (σ a0 (j : Int)) (ρ a0 (j : Int)))).slots.size : Int); rw [arrV_size]; omega)
    (by rw [ek]; show ¬ (0 : Int) + k > ((arrV cA n1 (fun j => jk_E G .byte (σ a (j : Int)) (ρ a (j : Int)))).slots.size : Int); rw [arrV_size]; omega)
    (fun vm₁ _ i hi => by
      rw [ek2] at hi
      have e9 : (arrV cA0 n0 (fun j => jk_E G .byte (σ a0 (j : Int)) (ρ a0 (j : Int)))).slots.getD ((Int32.ofInt 0).toNatClampNeg + i) .null = .int (Int32.ofInt (σ a0 (i : Int))) := by
        rw [e02, Nat.zero_add, Array.getD_eq_getD_getElem?, arrV_read _ _ (by omega)]
        rfl
      rw [e9]
      exact ⟨jk_fitB (hfit i ⟨by omega, by omega⟩), trivial⟩)
    (g := F0 m pc ls' ((jI k :: jI 0 :: .ref a :: jI 0 :: .ref a0 :: st).map (jk_re G))) rfl ((jk_fsz hl).trans C.2.2.1.symm) (rest := st.map (jk_re G)) rfl (by rw [C.2.1]; exact hd) (by omega) (by show 2 * 0 + _ + (18 : Nat) ≤ _; omega)
  have e1 : copied (arrV cA0 n0 (fun j => jk_E G .byte (σ a0 (j : Int)) (ρ a0 (j : Int)))) (arrV cA n1 (fun j => jk_E G .byte (σ a (j : Int)) (ρ a (j : Int)))) (Int32.ofInt 0) (Int32.ofInt 0) (Int32.ofInt k) = arrV cA n1 (fun j => Value.int (Int32.ofInt (va_cpy (fun j : Nat => σ a0 (j : Int)) (fun j : Nat => σ a (j : Int)) (Int32.ofInt 0).toNatClampNeg (Int32.ofInt 0).toNatClampNeg (Int32.ofInt k).toNatClampNeg j))) := va_copied (fun z : Int => Value.int (Int32.ofInt z)) cA0 cA (fun j : Nat => σ a0 (j : Int)) (fun j : Nat => σ a (j : Int)) (by rw [e02, ek2]; omega)
  rw [e1] at X' step
  generalize hC : arrV cA n1 (fun j => Value.int (Int32.ofInt (va_cpy (fun j : Nat => σ a0 (j : Int)) (fun j : Nat => σ a (j : Int)) (Int32.ofInt 0).toNatClampNeg (Int32.ofInt 0).toNatClampNeg (Int32.ofInt k).toNatClampNeg j))) = NC at X' step
  have hlt : jk_ad G a < H.size := (Array.getElem?_eq_some_iff.mp q1).1
  have hheap : ((T.setVm vm').setCell (jk_ad G a) NC).heap = H.setIfInBounds (jk_ad G a) NC := by rw [← hT]; rfl
  have oq : ∀ z : Nat, z ≠ jk_ad G a → (H.setIfInBounds (jk_ad G a) NC)[z]? = H[z]? := fun z hz => by simp [Array.getElem?_setIfInBounds, Ne.symm hz]
  have hA := jk_ad_A (G := G) h6 hae
  obtain ⟨t9, a9, b9⟩ := kk p e R s m args below meth c (H.setIfInBounds (jk_ad G a) NC) (locs ++ (Cell.stretch (arrV cA0 n0 (fun j => jk_E G .byte (σ a0 (j : Int)) (ρ a0 (j : Int)))) (Int32.ofInt 0).toNatClampNeg (Int32.ofInt k).toNatClampNeg).zipIdx.map fun z => ⟨jk_ad G a, (Int32.ofInt 0).toNatClampNeg + z.2⟩) cells slots ls' C hl (jk_R_set hR (by simp) oq h6 hae (by
      rw [ht1]
      refine ⟨h6, han, hae, hlen9, cA, ?_, q2, q3⟩
      rw [show (H.setIfInBounds (jk_ad G a) NC)[jk_ad G a]? = some NC by simp [Array.getElem?_setIfInBounds, hlt], ← hC]
      congr 2
      funext j
      rw [jk_row_same]
      show Value.int _ = Value.int _
      congr 2
      unfold va_cpy
      rw [e02, ek2]
      by_cases hj : (j : Int) < k
      · rw [if_pos (by omega), if_pos (by omega), Nat.zero_add, Nat.sub_zero]
      · rw [if_neg (by omega), if_neg (by omega)]) (fun b hb => jk_row_ne _ _ hb) (fun b hb => rfl)) ⟨by simp; exact hS.1, fun z g1 g2 => by
      rw [oq z (fun e => g2 (by rw [e]; exact hA))]
      exact hS.2.1 z g1 g2, fun z hz => by
      rcases List.mem_append.mp hz with h | h
      · exact hS.2.2 z h
      · obtain ⟨w, -, hw⟩ := List.mem_map.mp h
        rw [← hw]
        exact hA⟩ hc hs _ hheap X'
  exact ⟨t9, step t9 a9, b9⟩
end JB
end B0
