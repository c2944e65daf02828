section JU
variable {G : jk_G} {M : jk_M} {pc q : Nat} {ls : List (Option Value)} {st : List Value} {n : Nat} {t : jk_T} {σ σ' : jk_I} {ρ ρ' : jk_P} {rc rs : Nat} {Q : jk_Q} {X : jk_X}
theorem jk_shr {x : Int} (h : jk_in x) : Int32.ofInt x >>> (Int32.ofInt 1 &&& 31) = Int32.ofInt (x / 2) := by
  have h2 : jk_in (x / 2) := ⟨by have := h.1; omega, by have := h.2; omega⟩
  rw [← Int32.toInt_inj, jk_ti h2, show (Int32.ofInt 1 &&& 31) = 1 by decide]
  show (BitVec.sshiftRight' (Int32.ofInt x).toBitVec ((1 : Int32).toBitVec.smod 32)).toInt = _
  rw [show (1 : Int32).toBitVec.smod 32 = 1#32 by decide]
  show (BitVec.sshiftRight (Int32.ofInt x).toBitVec 1).toInt = _
  rw [BitVec.toInt_sshiftRight]
  show (Int32.ofInt x).toInt >>> 1 = _
  rw [jk_ti h, Int.shiftRight_eq_div_pow]
  rfl
theorem jk_ishr1 {x : Int} (hd : decode (jk_cc M) pc = .ok (.ishr, 1)) (hp : pc + 1 = q) (h1 : jk_in x) (k : jk_J G M q ls (jI (x / 2) :: st) n t σ ρ rc rs Q X) : jk_J G M pc ls (jI 1 :: jI x :: st) n t σ ρ rc rs Q X := by
  subst hp
  exact jk_pure (fun p e R s m args below meth c H locs cells slots ls' Qf hx hb kk => lv_ishr hx hb hd (by rw [jk_shr h1]; exact kk)) k
theorem jk_abs {x : Int} (h : jk_in x) (h0 : x ≠ -2147483648) : (if (0 : Int32) ≤ Int32.ofInt x then Int32.ofInt x else 0 - Int32.ofInt x) = Int32.ofInt (md_abs x) := by
  have e : ((0 : Int32) ≤ Int32.ofInt x) ↔ 0 ≤ x := jk_le (x := 0) ⟨by decide, by decide⟩ h
  unfold md_abs
  by_cases h2 : 0 ≤ x
  · rw [if_pos (e.mpr h2), if_neg (by omega)]
  · rw [if_neg (fun h3 => h2 (e.mp h3)), if_pos (by omega), show (0 : Int32) = Int32.ofInt 0 from rfl, ← Int32.ofInt_sub, Int.zero_sub]
theorem jk_mabs {x : Int} {index : Nat} (hw : Cond.methodLink (jk_own M) index Lib.Math.abs.name ∈ jk_WS) (hdep : Nat.ble 1 (jk_d M) = true) (hlen : Nat.ble st.length 4 = true) (hx : jk_in x) (hx0 : x ≠ -2147483648) (hd : decode (jk_cc M) pc = .ok (.invokestatic index, 3)) (hp : pc + 3 = q) (kk : jk_J G M q ls (jI (md_abs x) :: st) n t σ ρ rc rs Q X) : jk_J G M pc ls ( jI x :: st) n t σ ρ rc rs Q X := by
  subst hp
  intro p e R s m args below meth c H locs cells slots ls' C hl hR hS hc hs
  have hts := C.2.2.2.2.2.2.1
  have h1 := Nat.le_of_ble_eq_true hdep
  have h2 := Nat.le_of_ble_eq_true hlen
  have hd1 := C.2.2.2.2.2.2.2.2.2.1
  have hd2 := C.2.2.2.2.2.2.2.2.2.2.1
  have hcs := jk_catsum (G := G) st
  refine va_mabs C.1 C.2.1 ((jk_fsz hl).trans C.2.2.1.symm).symm C.2.2.2.2.2.1 (hts _ hw) (hts _ jw_515) (hts _ jw_20) (hts _ jw_516) (rest := st.map (jk_re G)) (by omega) (by omega) (by omega) (by omega) hd ?_
  rw [jk_abs hx hx0]
  exact kk p e R s m args below meth c H locs cells slots ls' C hl hR hS hc hs
theorem jk_min {x y : Int} (hx : jk_in x) (hy : jk_in y) : (if Int32.ofInt y < Int32.ofInt x then Int32.ofInt y else Int32.ofInt x) = Int32.ofInt (if y < x then y else x) := by
  by_cases h : y < x
  · rw [if_pos ((jk_lt hy hx).mpr h), if_pos h]
  · rw [if_neg (fun h3 => h ((jk_lt hy hx).mp h3)), if_neg h]
theorem jk_max {x y : Int} (hx : jk_in x) (hy : jk_in y) : (if Int32.ofInt x < Int32.ofInt y then Int32.ofInt y else Int32.ofInt x) = Int32.ofInt (if x < y then y else x) := by
  by_cases h : x < y
  · rw [if_pos ((jk_lt hx hy).mpr h), if_pos h]
  · rw [if_neg (fun h3 => h ((jk_lt hx hy).mp h3)), if_neg h]
theorem jk_mmin {x y : Int} {index : Nat} (hw : Cond.methodLink (jk_own M) index Lib.Math.min.name ∈ jk_WS) (hdep : Nat.ble 1 (jk_d M) = true) (hlen : Nat.ble st.length 4 = true) (hx : jk_in x) (hy : jk_in y) (hd : decode (jk_cc M) pc = .ok (.invokestatic index, 3)) (hp : pc + 3 = q) (kk : jk_J G M q ls (jI (if y < x then y else x) :: st) n t σ ρ rc rs Q X) : jk_J G M pc ls ( jI y :: jI x :: st) n t σ ρ rc rs Q X := by
  subst hp
  intro p e R s m args below meth c H locs cells slots ls' C hl hR hS hc hs
  have hts := C.2.2.2.2.2.2.1
  have h1 := Nat.le_of_ble_eq_true hdep
  have h2 := Nat.le_of_ble_eq_true hlen
  have hd1 := C.2.2.2.2.2.2.2.2.2.1
  have hd2 := C.2.2.2.2.2.2.2.2.2.2.1
  have hcs := jk_catsum (G := G) st
  refine va_mmin C.1 C.2.1 ((jk_fsz hl).trans C.2.2.1.symm).symm C.2.2.2.2.2.1 (hts _ hw) (hts _ jw_525) (hts _ jw_20) (hts _ jw_526) (rest := st.map (jk_re G)) (by omega) (by omega) (by omega) (by omega) hd ?_
  rw [jk_min hx hy]
  exact kk p e R s m args below meth c H locs cells slots ls' C hl hR hS hc hs
theorem jk_mmax {x y : Int} {index : Nat} (hw : Cond.methodLink (jk_own M) index Lib.Math.max.name ∈ jk_WS) (hdep : Nat.ble 1 (jk_d M) = true) (hlen : Nat.ble st.length 4 = true) (hx : jk_in x) (hy : jk_in y) (hd : decode (jk_cc M) pc = .ok (.invokestatic index, 3)) (hp : pc + 3 = q) (kk : jk_J G M q ls (jI (if x < y then y else x) :: st) n t σ ρ rc rs Q X) : jk_J G M pc ls ( jI y :: jI x :: st) n t σ ρ rc rs Q X := by
  subst hp
  intro p e R s m args below meth c H locs cells slots ls' C hl hR hS hc hs
  have hts := C.2.2.2.2.2.2.1
  have h1 := Nat.le_of_ble_eq_true hdep
  have h2 := Nat.le_of_ble_eq_true hlen
  have hd1 := C.2.2.2.2.2.2.2.2.2.1
  have hd2 := C.2.2.2.2.2.2.2.2.2.2.1
  have hcs := jk_catsum (G := G) st
  refine va_mmax C.1 C.2.1 ((jk_fsz hl).trans C.2.2.1.symm).symm C.2.2.2.2.2.1 (hts _ hw) (hts _ jw_528) (hts _ jw_20) (hts _ jw_529) (rest := st.map (jk_re G)) (by omega) (by omega) (by omega) (by omega) hd ?_
  rw [jk_max hx hy]
  exact kk p e R s m args below meth c H locs cells slots ls' C hl hR hS hc hs
end JU
